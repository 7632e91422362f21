-- needs: 44 450 451 452 453 454 455 456 457 460 461 462 463 464 466 469 470 471 475 490 491 492 493 494 495
set_option maxHeartbeats 4000000 in
set_option maxRecDepth 100000 in
theorem c_X8_read (l : Launch) {E : En} {V : Vt} {σ : St} (hC : repM V σ) (t : Int32) : CI l yX8_read wsX8_read 4 E V [.ref (E.1 + 580), .int t] (fun v V' => v = (opRead σ t).1 ∧ repM V' (opRead σ t).2 ∧ frC V V') := by
  refine Met.ofW (cc := cX8_read) (maxL := 4) (ret := (some .int)) (by decide) rfl ?_
  intro p e s m args below meth c s₁ B hml hv
  obtain ⟨rfl, hM, hK⟩ := hv
  have hx := B.exec
  have hb := B.bytes
  have hret := B.returns
  have hts := atoms_spec (ws := wsX8_read) B.pre
  have hown : s.vm.findClass RX8 = some m.cls := findClass_of_methodNamed B.named
  have hlocks := B.notSynchronized
  have hsz : s.heap.size = E.1 + 610 := hM.1
  have hS : va_S (AE E) s.heap s.heap [] := va_S.rf
  have inw8 : ∀ w ∈ u_ws RX8 TX8 42, w ∈ wsX8_read := by decide +kernel
  have k112 := hts (.fieldLink RX8 112 "LimitTokensModel" "thrown" "I") (by decide +kernel)
  have k240 := hts (.fieldLink RX8 240 "LimitTokensModel" "readAt" "I") (by decide +kernel)
  have k237 := hts (.fieldLink RX8 237 "LimitTokensModel" "readFault" "I") (by decide +kernel)
  have k55 := hts (.fieldLink RX8 55 "LimitTokensModel" "place" "I") (by decide +kernel)
  have k69 := hts (.fieldLink RX8 69 "LimitTokensModel" "limits" "[I") (by decide +kernel)
  have k63 := hts (.fieldLink RX8 63 "LimitTokensModel" "nameSize" "[I") (by decide +kernel)
  have k66 := hts (.fieldLink RX8 66 "LimitTokensModel" "name" "[I") (by decide +kernel)
  have k84 := hts (.fieldLink RX8 84 "LimitTokensModel" "sign" "[I") (by decide +kernel)
  have k227 := hts (.fieldLink RX8 227 "LimitTokensModel" "tapeSize" "I") (by decide +kernel)
  have hl := lv_entry ([.ref (E.1 + 580), .int t]) (n := 4) (Nat.le_of_ble_eq_true rfl)
  rw [lg_entry_eq]
  generalize (lg_sl ([.ref (E.1 + 580), .int t]) ++ List.replicate (4 - (lg_sl ([.ref (E.1 + 580), .int t])).length) Slot.unset).toArray = ls at hl ⊢
  have hl : lv_has ls 4 [(0, .ref (E.1 + 580)), (1, .int t)] := hl
  refine lv_aload_n hx hb dX8_read_0 rfl (lv_at hl 0 rfl) ?_
  refine lv_iconst (v := 0) hx hb dX8_read_1 (by decide) ?_
  refine w_pi 8 0 (T := TX8) (N := 42) hx hb hts inw8 tyX8 tyX8_ok nmX8 hown hK.1 hM hS (by decide) (by decide) (by decide) (by decide) (by decide) rfl (by decide) k112 rfl rfl rfl rfl dX8_read_2 (fun H locs hM hS => ?_)
  generalize hV2 : up2 V 580 0 0 = V2 at hM
  have hC2 := hC.fr (pFr.th hV2).1
  have fC2 := (pFr.th hV2).2
  obtain ⟨⟨oR, oT, oP⟩, cN, cR, cT, cP, cQ, cF, cL⟩ := id hC2
  refine lv_iload_n hx hb dX8_read_5 rfl (lv_at hl 1 rfl) ?_
  refine w_cSi (As := [.int t]) (rest := []) ⟨hx, hb, hml, hown, hts⟩ (c_X8_is l t) (va_cwS 1 hts gX8_read_X8_is rfl rfl rfl (by decide +kernel) ⟨Nat.le_of_ble_eq_true rfl, Nat.le_of_ble_eq_true rfl⟩) hM hK hS rfl hl.1 rfl (lv_room (Nat.le_of_ble_eq_true rfl)) dX8_read_6 ⟨Nat.le_of_ble_eq_true rfl, Nat.le_of_ble_eq_true rfl⟩ (fun r6 V6 H locs hp6 hM hS => ?_)
  obtain ⟨er6, eV⟩ := hp6
  rw [eV] at hM; clear eV
  refine lv_if_ne (tgt := 15) hx hb dX8_read_9 (by decide) (fun c_9 => ?_) (fun c_9 => ?_)
  · have i1 : in8 t = true := b2i_ne0 (by rw [← er6]; exact c_9)
    obtain ⟨h8t, ent⟩ := in8_r i1
    refine lv_aload_n hx hb dX8_read_15 rfl (lv_at hl 0 rfl) ?_
    refine lv_iconst (v := 0) hx hb dX8_read_16 (by decide) ?_
    refine w_pi 8 40 (T := TX8) (N := 42) hx hb hts inw8 tyX8 tyX8_ok nmX8 hown hK.1 hM hS (by decide) (by decide) (by decide) (by decide) (by decide) rfl (by decide) k240 rfl rfl rfl rfl dX8_read_17 (fun H locs hM hS => ?_)
    generalize hV17 : up2 V2 580 40 0 = V17 at hM
    refine lv_aload_n hx hb dX8_read_20 rfl (lv_at hl 0 rfl) ?_
    refine lv_iconst (v := 0) hx hb dX8_read_21 (by decide) ?_
    refine w_pi 8 41 (T := TX8) (N := 42) hx hb hts inw8 tyX8 tyX8_ok nmX8 hown hK.1 hM hS (by decide) (by decide) (by decide) (by decide) (by decide) rfl (by decide) k237 rfl rfl rfl rfl dX8_read_22 (fun H locs hM hS => ?_)
    generalize hV22 : up2 V17 580 41 0 = V22 at hM
    refine lv_aload_n hx hb dX8_read_25 rfl (lv_at hl 0 rfl) ?_
    refine lv_iconst (v := (-1)) hx hb dX8_read_26 (by decide) ?_
    refine w_pi 8 20 (T := TX8) (N := 42) hx hb hts inw8 tyX8 tyX8_ok nmX8 hown hK.1 hM hS (by decide) (by decide) (by decide) (by decide) (by decide) rfl (by decide) k55 rfl rfl rfl rfl dX8_read_27 (fun H locs hM hS => ?_)
    generalize hV27 : up2 V22 580 20 (-1) = V27 at hM
    refine lv_aload_n hx hb dX8_read_30 rfl (lv_at hl 0 rfl) ?_
    refine w_gr 8 24 599 (T := TX8) (N := 42) hx hb hts inw8 hown hK.1 hM (by decide) (by decide) (by decide) (by decide) (by decide) rfl (by decide) k69 rfl dX8_read_31 ?_
    refine lv_bipush (v := 8) hx hb dX8_read_34 (by decide) ?_
    refine lv_iconst (v := 0) hx hb dX8_read_36 (by decide) ?_
    have i_37 : (8 : Int32) = nI (8) := rfl
    have j_37 : (8 : Int32).toNatClampNeg = 8 := (congrArg Int32.toNatClampNeg i_37).trans (nI_clamp (by omega))
    refine w_ist (N := 9) hx hb hK.1 hM hS (by decide) (by decide) (by decide) (by rw [i_37]; exact vp_in_nI (by omega) (by omega)) dX8_read_37 (fun H locs hM hS => ?_)
    rw [j_37] at hM
    generalize hV37 : up2 V27 599 8 0 = V37 at hM
    have f37 : frQ V2 V37 := ((frN.up hV17 (by decide)).trans ((frN.up hV22 (by decide)).trans (frN.up hV27 (by decide)))).R.trans (frQ.up hV37 (by decide))
    have hr37 : rdS V37 σ.2.2.1 (.inr 0) := ⟨by rw [← hV37, up2_k _ _ (by decide), ← hV27, up2_o _ _ (by decide), ← hV22, up2_s], by rw [← hV37, up2_k _ _ (by decide), ← hV27, up2_o _ _ (by decide), ← hV22, up2_o _ _ (by decide), ← hV17, up2_s]; rfl, Nat.zero_le _, by rw [← hV37, up2_k _ _ (by decide), ← hV27, up2_s]⟩
    have hu37 : buf V37 19 595 σ.2.2.1 := f37.bf cP
    refine lv_aload_n hx hb dX8_read_38 rfl (lv_at hl 0 rfl) ?_
    refine lv_iconst (v := 2) hx hb dX8_read_39 (by decide) ?_
    refine w_cVv (C := RX8) (As := [.int 2]) (rest := []) ⟨hx, hb, hml, hown, hts⟩ (c_X8_want l hu37 oP.1 hr37 2) (cwV 1 hts gX8_read_X8_want rfl rfl rfl (by decide +kernel) ⟨Nat.le_of_ble_eq_true rfl, Nat.le_of_ble_eq_true rfl⟩) (w_recv (ci := 8) hK hM (by decide) (by decide) (by decide) rfl) hM hK hS rfl hl.1 rfl (lv_room (Nat.le_of_ble_eq_true rfl)) dX8_read_40 ⟨Nat.le_of_ble_eq_true rfl, Nat.le_of_ble_eq_true rfl⟩ (fun V40 H locs hp40 hM hS => ?_)
    obtain ⟨x1, rd40, fn40, ht1⟩ : ∃ x1, rdS V40 σ.2.2.1 x1 ∧ frN V37 V40 ∧ rTok σ.2.2.1 = kS x1 (t2 σ.2.2.1) := ⟨_, hp40.1, hp40.2, rTok_t _⟩
    refine lv_aload_n hx hb dX8_read_43 rfl (lv_at hl 0 rfl) ?_
    refine lv_iconst (v := 2) hx hb dX8_read_44 (by decide) ?_
    refine w_cVv (C := RX8) (As := [.int 2]) (rest := []) ⟨hx, hb, hml, hown, hts⟩ (c_X8_want l (fn40.bf hu37) oP.1 rd40 2) (cwV 1 hts gX8_read_X8_want rfl rfl rfl (by decide +kernel) ⟨Nat.le_of_ble_eq_true rfl, Nat.le_of_ble_eq_true rfl⟩) (w_recv (ci := 8) hK hM (by decide) (by decide) (by decide) rfl) hM hK hS rfl hl.1 rfl (lv_room (Nat.le_of_ble_eq_true rfl)) dX8_read_45 ⟨Nat.le_of_ble_eq_true rfl, Nat.le_of_ble_eq_true rfl⟩ (fun V45 H locs hp45 hM hS => ?_)
    obtain ⟨x2, rd45, fn45, ht2⟩ : ∃ x2, rdS V45 σ.2.2.1 x2 ∧ frN V40 V45 ∧ rTok σ.2.2.1 = kS x2 (t3 σ.2.2.1) := ⟨_, hp45.1, hp45.2, ht1.trans (kS_k x1 _ _).symm⟩
    refine lv_aload_n hx hb dX8_read_48 rfl (lv_at hl 0 rfl) ?_
    refine w_gr 8 22 597 (T := TX8) (N := 42) hx hb hts inw8 hown hK.1 hM (by decide) (by decide) (by decide) (by decide) (by decide) rfl (by decide) k63 rfl dX8_read_49 ?_
    refine lv_bipush (v := 8) hx hb dX8_read_52 (by decide) ?_
    refine lv_aload_n hx hb dX8_read_54 rfl (lv_at hl 0 rfl) ?_
    refine lv_aload_n hx hb dX8_read_55 rfl (lv_at hl 0 rfl) ?_
    refine w_gr 8 23 598 (T := TX8) (N := 42) hx hb hts inw8 hown hK.1 hM (by decide) (by decide) (by decide) (by decide) (by decide) rfl (by decide) k66 rfl dX8_read_56 ?_
    refine lv_sipush (v := 480) hx hb dX8_read_59 (by decide) ?_
    refine lv_iconst (v := 1) hx hb dX8_read_62 (by decide) ?_
    refine lv_bipush (v := 60) hx hb dX8_read_63 (by decide) ?_
    refine w_cVi (C := RX8) (As := [.ref (E.1 + 598), .int 480, .int 1, .int 60]) (rest := [.int 8, .ref (E.1 + 597)]) ⟨hx, hb, hml, hown, hts⟩ (c_X8_readRow l a598 (by decide) (fn45.bf (fn40.bf hu37)) oP.1 rd45 oP.2 (b := 480) (lo := 1) (hi := 60) (by omega) (by omega) (by omega)) (cwV 4 hts gX8_read_X8_readRow rfl rfl rfl (by decide +kernel) ⟨Nat.le_of_ble_eq_true rfl, Nat.le_of_ble_eq_true rfl⟩) (w_recv (ci := 8) hK hM (by decide) (by decide) (by decide) rfl) hM hK hS rfl hl.1 rfl (lv_room (Nat.le_of_ble_eq_true rfl)) dX8_read_65 ⟨Nat.le_of_ble_eq_true rfl, Nat.le_of_ble_eq_true rfl⟩ (fun r65 V65 H locs hp65 hM hS => ?_)
    obtain ⟨x3, nm, rd65, f65, ht3, hn65⟩ : ∃ x3 nm, rdS V65 σ.2.2.1 x3 ∧ frRw V45 V65 598 480 60 ∧ rTok σ.2.2.1 = kS x3 (t4 σ.2.2.1 nm) ∧ ∀ p1, x3 = .inr p1 → r65 = nI nm.length ∧ seg V65 598 480 nm := ⟨sS (rb σ.2.2.1 1 60 x2), bsOf [] (rb σ.2.2.1 1 60 x2), hp65.1, hp65.2.2, ht2.trans ((kS_2 x2 _ _).symm.trans (kS2_s [] _ _)), fun p1 q => hp65.2.1 _ _ (sS_inr _ q)⟩
    have i_68 : (8 : Int32) = nI (8) := rfl
    have j_68 : (8 : Int32).toNatClampNeg = 8 := (congrArg Int32.toNatClampNeg i_68).trans (nI_clamp (by omega))
    refine w_ist (N := 9) hx hb hK.1 hM hS (by decide) (by decide) (by decide) (by rw [i_68]; exact vp_in_nI (by omega) (by omega)) dX8_read_68 (fun H locs hM hS => ?_)
    rw [j_68] at hM
    generalize hV68 : up2 V65 597 8 r65 = V68 at hM
    have hu68 : buf V68 19 595 σ.2.2.1 := (((f37.trans fn40.R).trans fn45.R).trans f65.N |>.trans (frQ.up hV68 (by decide))).bf cP
    refine lv_aload_n hx hb dX8_read_69 rfl (lv_at hl 0 rfl) ?_
    refine lv_iconst (v := 0) hx hb dX8_read_70 (by decide) ?_
    refine w_cVv (C := RX8) (As := [.int 0]) (rest := []) ⟨hx, hb, hml, hown, hts⟩ (c_X8_want l (hu68) oP.1 (rd65.fr (fun z _ => by rw [← hV68, up2_k _ _ (by decide)])) 0) (cwV 1 hts gX8_read_X8_want rfl rfl rfl (by decide +kernel) ⟨Nat.le_of_ble_eq_true rfl, Nat.le_of_ble_eq_true rfl⟩) (w_recv (ci := 8) hK hM (by decide) (by decide) (by decide) rfl) hM hK hS rfl hl.1 rfl (lv_room (Nat.le_of_ble_eq_true rfl)) dX8_read_71 ⟨Nat.le_of_ble_eq_true rfl, Nat.le_of_ble_eq_true rfl⟩ (fun V71 H locs hp71 hM hS => ?_)
    obtain ⟨x4, rd71, fn71, ht4, hn71⟩ : ∃ x4, rdS V71 σ.2.2.1 x4 ∧ frN V68 V71 ∧ rTok σ.2.2.1 = kS x4 (t5 σ.2.2.1 nm 10 []) ∧ (∀ p1, x4 = .inr p1 → V71 597 8 = nI nm.length ∧ seg V71 598 480 nm) := ⟨_, hp71.1, hp71.2, ht3.trans (kS_k x3 _ _).symm, fun p1 q => by obtain ⟨q0, hq0, -⟩ := kS_inr q; have := hn65 q0 hq0; exact ⟨by rw [hp71.2.1 597 (by decide), ← hV68, up2_s]; exact this.1, this.2.keep (by rw [hp71.2.1 598 (by decide), ← hV68, up2_k _ _ (by decide)])⟩⟩
    have f71 : frQ V2 V71 := ((((f37.trans fn40.R).trans fn45.R).trans f65.N).trans (frQ.up hV68 (by decide))).trans fn71.R
    have h8z : V71 599 8 = nI 0 := by rw [fn71.1 599 (by decide), ← hV68, up2_k _ _ (by decide), f65.2.1 599 (by decide) (by decide), fn45.1 599 (by decide), fn40.1 599 (by decide), ← hV37, up2_s]; rfl
    refine lv_iconst (v := 1) hx hb dX8_read_74 (by decide) ?_
    refine lv_istore_n (lv' := [(2, .int 1), (0, .ref (E.1 + 580)), (1, .int t)]) hx hb dX8_read_75 rfl hl (by decide) rfl (fun ls hl => ?_)
    have loop76 : ∀ (fu : Nat) (Vw : Vt) (H : Heap) (locs : List Loc) (ls : Array Slot) (acc : List Lm) (x : RS) (mo : Int32) (hx0 : rdS Vw σ.2.2.1 x) (hm : (mo = 1 ∧ rTok σ.2.2.1 = kS x (t5 σ.2.2.1 nm (10 - acc.length) acc)) ∨ (mo = 0 ∧ rTok σ.2.2.1 = kS x (t6 σ.2.2.1 nm acc))) (hnd : (∀ p1, x = .inr p1 → Vw 597 8 = nI nm.length ∧ seg Vw 598 480 nm)) (hac : Vw 599 8 = nI acc.length) (hal : acc.length ≤ 10) (hdt : (∀ p1, x = .inr p1 → ∀ j, j < acc.length → mLim Vw (80 + j) (acc.getD j lz) ∧ (acc.getD j lz).1.length ≤ 60 ∧ (acc.getD j lz).2.length ≤ 32)) (hfr : frQ V2 Vw), 3 * (10 - acc.length) + rz mo x < fu → Wd E Vw H → va_S (AE E) s.heap H locs → lv_has ls 4 [(0, .ref (E.1 + 580)), (1, .int t), (2, .int mo)] → W p l e (headSpec wsX8_read (rmD 4)).room s m ([.ref (E.1 + 580), .int t] : List Value).toArray below meth c H locs 0 0 (MQ below (QI E (fun V' => Wd E V') (fun v V' => v = (opRead σ t).1 ∧ repM V' (opRead σ t).2 ∧ frC V V')) ([.ref (E.1 + 580), .int t] : List Value).toArray s 0 0 (AE E)) (F0 m 76 ls []) := by
      intro fu
      induction fu with
      | zero => intros; omega
      | succ fu ih76 =>
        intro Vw H locs ls acc x mo hx0 hm hnd hac hal hdt hfr hfu hM hS hl
        refine lv_iload_n hx hb dX8_read_76 rfl (lv_at hl 2 rfl) ?_
        refine lv_if_eq (tgt := 174) hx hb dX8_read_77 (by decide) (fun c_77 => ?_) (fun c_77 => ?_)
        · have h6 : rTok σ.2.2.1 = kS x (t6 σ.2.2.1 nm acc) := by rcases hm with q | q; (rw [q.1] at c_77; exact absurd c_77 (by decide)); (exact q.2)
          refine lv_aload_n hx hb dX8_read_174 rfl (lv_at hl 0 rfl) ?_
          refine lv_bipush (v := 6) hx hb dX8_read_175 (by decide) ?_
          refine w_cVv (C := RX8) (As := [.int 6]) (rest := []) ⟨hx, hb, hml, hown, hts⟩ (c_X8_want l (hfr.bf cP) oP.1 hx0 6) (cwV 1 hts gX8_read_X8_want rfl rfl rfl (by decide +kernel) ⟨Nat.le_of_ble_eq_true rfl, Nat.le_of_ble_eq_true rfl⟩) (w_recv (ci := 8) hK hM (by decide) (by decide) (by decide) rfl) hM hK hS rfl hl.1 rfl (lv_room (Nat.le_of_ble_eq_true rfl)) dX8_read_177 ⟨Nat.le_of_ble_eq_true rfl, Nat.le_of_ble_eq_true rfl⟩ (fun V177 H locs hp177 hM hS => ?_)
          obtain ⟨x7, rd177, fn177, ht7, hx7⟩ : ∃ x7, rdS V177 σ.2.2.1 x7 ∧ frN Vw V177 ∧ rTok σ.2.2.1 = kS x7 (t7 σ.2.2.1 nm acc) ∧ (∀ p1, x7 = .inr p1 → ∃ p2, x = .inr p2) := ⟨_, hp177.1, hp177.2, h6.trans (kS_k x _ _).symm, fun p1 q => by obtain ⟨q0, hq0, -⟩ := kS_inr q; exact ⟨q0, hq0⟩⟩
          refine lv_aload_n hx hb dX8_read_180 rfl (lv_at hl 0 rfl) ?_
          refine lv_aload_n hx hb dX8_read_181 rfl (lv_at hl 0 rfl) ?_
          refine w_gr 8 29 604 (T := TX8) (N := 42) hx hb hts inw8 hown hK.1 hM (by decide) (by decide) (by decide) (by decide) (by decide) rfl (by decide) k84 rfl dX8_read_182 ?_
          refine lv_sipush (v := 256) hx hb dX8_read_185 (by decide) ?_
          refine lv_bipush (v := 32) hx hb dX8_read_188 (by decide) ?_
          refine lv_bipush (v := 32) hx hb dX8_read_190 (by decide) ?_
          refine w_cVi (C := RX8) (As := [.ref (E.1 + 604), .int 256, .int 32, .int 32]) (rest := []) ⟨hx, hb, hml, hown, hts⟩ (c_X8_readRow l a604 (by decide) (fn177.bf (hfr.bf cP)) oP.1 rd177 oP.2 (b := 256) (lo := 32) (hi := 32) (by omega) (by omega) (by omega)) (cwV 4 hts gX8_read_X8_readRow rfl rfl rfl (by decide +kernel) ⟨Nat.le_of_ble_eq_true rfl, Nat.le_of_ble_eq_true rfl⟩) (w_recv (ci := 8) hK hM (by decide) (by decide) (by decide) rfl) hM hK hS rfl hl.1 rfl (lv_room (Nat.le_of_ble_eq_true rfl)) dX8_read_192 ⟨Nat.le_of_ble_eq_true rfl, Nat.le_of_ble_eq_true rfl⟩ (fun r192 V192 H locs hp192 hM hS => ?_)
          obtain ⟨x8, sg, rd192, f192, ht8, hn192⟩ : ∃ x8 sg, rdS V192 σ.2.2.1 x8 ∧ frRw V177 V192 604 256 32 ∧ rTok σ.2.2.1 = kS x8 (t8 σ.2.2.1 nm acc sg) ∧ ∀ p1, x8 = .inr p1 → seg V192 604 256 sg ∧ ∃ p2, x7 = .inr p2 := ⟨sS (rb σ.2.2.1 32 32 x7), bsOf [] (rb σ.2.2.1 32 32 x7), hp192.1, hp192.2.2, ht7.trans ((kS_2 x7 _ _).symm.trans (kS2_s [] _ _)), fun p1 q => ⟨(hp192.2.1 _ _ (sS_inr _ q)).2, by have q2 := sS_inr ([] : List Int32) q; cases x7 with | inl e9 => cases q2 | inr p9 => exact ⟨p9, rfl⟩⟩⟩
          have f9 : frQ V2 V192 := (hfr.trans fn177.R).trans f192.S
          refine lv_istore_n (lv' := [(3, .int r192), (0, .ref (E.1 + 580)), (1, .int t), (2, .int mo)]) hx hb dX8_read_195 rfl hl (by decide) rfl (fun ls hl => ?_)
          refine lv_aload_n hx hb dX8_read_196 rfl (lv_at hl 1 rfl) ?_
          refine w_gi 8 41 (T := TX8) (N := 42) hx hb hts inw8 hown hK.1 hM (by decide) (by decide) (by decide) (by decide) (by decide) rfl (by decide) k237 rfl dX8_read_197 ?_
          refine lv_if_ne (tgt := 223) hx hb dX8_read_200 (by decide) (fun c_200 => ?_) (fun c_200 => ?_)
          · obtain ⟨e8, he8, h41, h15, h20⟩ := rd192.nz c_200
            have hrT : rTok σ.2.2.1 = .inl e8 := by rw [ht8, he8]; rfl
            refine lv_aload_n hx hb dX8_read_223 rfl (lv_at hl 1 rfl) ?_
            refine w_gi 8 41 (T := TX8) (N := 42) hx hb hts inw8 hown hK.1 hM (by decide) (by decide) (by decide) (by decide) (by decide) rfl (by decide) k237 rfl dX8_read_224 ?_
            refine lv_if_eq (tgt := 238) hx hb dX8_read_227 (by decide) (fun c_227 => ?_) (fun c_227 => ?_)
            · exact absurd c_227 c_200
            · refine lv_bipush (v := (-10)) hx hb dX8_read_230 (by decide) ?_
              refine lv_aload_n hx hb dX8_read_232 rfl (lv_at hl 1 rfl) ?_
              refine w_gi 8 41 (T := TX8) (N := 42) hx hb hts inw8 hown hK.1 hM (by decide) (by decide) (by decide) (by decide) (by decide) rfl (by decide) k237 rfl dX8_read_233 ?_
              refine lv_isub hx hb dX8_read_236 ?_
              have hpost : (fun v V' => v = (opRead σ t).1 ∧ repM V' (opRead σ t).2 ∧ frC V V') ((-10) - (V192 580 41)) V192 := by
                have hq : opRead σ t = (-10 - nI e8.1, sPlc σ (nI e8.2)) := by simp only [opRead, i1, if_true, hrT]
                rw [hq]; exact ⟨by rw [h41], hC2.plc f9 h20, fC2.trans f9.C⟩
              exact w_iret V192 hx hb hret hK hS hM (hpost) hlocks dX8_read_237
          · have oP1 := oP.1
            obtain ⟨p8, hp8, h40, hpl8, h20⟩ := rd192.z c_200
            refine lv_aload_n hx hb dX8_read_203 rfl (lv_at hl 1 rfl) ?_
            refine w_gi 8 40 (T := TX8) (N := 42) hx hb hts inw8 hown hK.1 hM (by decide) (by decide) (by decide) (by decide) (by decide) rfl (by decide) k240 rfl dX8_read_204 ?_
            have q : (V192 580 40 : Int32) = nI p8 := h40
            refine lv_eqi q ?_
            refine lv_aload_n hx hb dX8_read_207 rfl (lv_at hl 1 rfl) ?_
            refine w_gi 8 19 (T := TX8) (N := 42) hx hb hts inw8 hown hK.1 hM (by decide) (by decide) (by decide) (by decide) (by decide) rfl (by decide) k227 rfl dX8_read_208 ?_
            have q : (V192 580 19 : Int32) = nI σ.2.2.1.length := (f9.bf cP).1
            refine lv_eqi q ?_
            refine lv_icmp_ge (tgt := 223) hx hb dX8_read_211 (by decide) (fun c_211 => ?_) (fun c_211 => ?_)
            · have n_211 : σ.2.2.1.length ≤ p8 := (nLe (a := σ.2.2.1.length) (b := p8) rfl rfl (by omega) (by omega)).mp c_211
              obtain ⟨p7, hp7⟩ := (hn192 p8 hp8).2
              obtain ⟨p9, hp9⟩ := hx7 p7 hp7
              have hrT : rTok σ.2.2.1 = .inr (nm, sg, acc) := by rw [ht8, hp8]; show t8 _ _ _ _ _ = _; unfold t8; rw [if_pos (by omega)]
              refine lv_aload_n hx hb dX8_read_223 rfl (lv_at hl 1 rfl) ?_
              refine w_gi 8 41 (T := TX8) (N := 42) hx hb hts inw8 hown hK.1 hM (by decide) (by decide) (by decide) (by decide) (by decide) rfl (by decide) k237 rfl dX8_read_224 ?_
              have q : (V192 580 41 : Int32) = 0 := c_200
              refine lv_eqi q ?_
              refine lv_if_eq (tgt := 238) hx hb dX8_read_227 (by decide) (fun c_227 => ?_) (fun c_227 => ?_)
              · have n_227 : 0 = 0 := (nEq (a := 0) (b := 0) rfl rfl (by omega) (by omega)).mp c_227
                refine lv_aload_n hx hb dX8_read_238 rfl (lv_at hl 1 rfl) ?_
                refine lv_bipush (v := 8) hx hb dX8_read_239 (by decide) ?_
                refine lv_iload_n hx hb dX8_read_241 rfl (lv_at hl 2 rfl) ?_
                refine w_cVv (C := RX8) (As := [.int 8, .int t]) (rest := []) ⟨hx, hb, hml, hown, hts⟩ (c_X8_copyToken l (ta := 8) (tb := rj t) (by omega) (by omega) rfl ent) (cwV 2 hts gX8_read_X8_copyToken rfl rfl rfl (by decide +kernel) ⟨Nat.le_of_ble_eq_true rfl, Nat.le_of_ble_eq_true rfl⟩) (w_recv (ci := 8) hK hM (by decide) (by decide) (by decide) rfl) hM hK hS rfl hl.1 rfl (lv_room (Nat.le_of_ble_eq_true rfl)) dX8_read_242 ⟨Nat.le_of_ble_eq_true rfl, Nat.le_of_ble_eq_true rfl⟩ (fun V242 H locs hp242 hM hS => ?_)
                have hTT : mTokIs V192 8 (nm, sg, acc) := ⟨by rw [f192.2.1 597 (by decide) (by decide), fn177.1 597 (by decide)]; exact (hnd p9 hp9).1, (hnd p9 hp9).2.keep (by rw [f192.2.1 598 (by decide) (by decide), fn177.1 598 (by decide)]), by rw [f192.2.1 599 (by decide) (by decide), fn177.1 599 (by decide)]; exact hac, (hn192 p8 hp8).1, fun j hj => by have d := hdt p9 hp9 j hj; exact d.1.fn d.2.1 d.2.2 (by rw [f192.2.1 600 (by decide) (by decide), fn177.1 600 (by decide)]) (fun i a b => by rw [f192.2.1 601 (by decide) (by decide), fn177.1 601 (by decide)]) (by rw [f192.2.1 602 (by decide) (by decide), fn177.1 602 (by decide)]) (fun i a b => by rw [f192.2.1 603 (by decide) (by decide), fn177.1 603 (by decide)])⟩
                have hok := rTok_ok oP.2 hrT
                have h26 := hp242.tok hTT hok
                refine lv_aload_n hx hb dX8_read_245 rfl (lv_at hl 1 rfl) ?_
                refine w_gr 8 24 599 (T := TX8) (N := 42) hx hb hts inw8 hown hK.1 hM (by decide) (by decide) (by decide) (by decide) (by decide) rfl (by decide) k69 rfl dX8_read_246 ?_
                refine lv_iload_n hx hb dX8_read_249 rfl (lv_at hl 2 rfl) ?_
                have i_250 : (t : Int32) = nI (rj t) := ent
                refine w_ild (N := 9) hx hb hK.1 hM (by decide) (by decide) (by decide) (by rw [i_250]; exact vp_in_nI (by omega) (by omega)) dX8_read_250 ?_
                have j_250 : t.toNatClampNeg = rj t := (congrArg Int32.toNatClampNeg i_250).trans (nI_clamp (by omega))
                have q : (V242 599 t.toNatClampNeg : Int32) = V242 599 (rj t) := by rw [j_250]
                refine lv_eqi q ?_
                have q : (V242 599 (rj t) : Int32) = nI acc.length := h26.2.2.2.1
                refine lv_eqi q ?_
                have hpost : (fun v V' => v = (opRead σ t).1 ∧ repM V' (opRead σ t).2 ∧ frC V V') (nI acc.length) V242 := by
                  have hq : opRead σ t = (nI acc.length, sTok (sPlc σ (-1)) (rj t) (some (nm, sg, acc))) := by simp only [opRead, i1, if_true, hrT]
                  have h9 := (hC2.plc f9 h20).tok h8t (o := some (nm, sg, acc)) h26 (fun T2 h2 => by cases h2; exact hok) (fun z _ hz => hp242.2.2.2.2.2.2.2.1 z hz) (fun k a => hp242.2.2.2.2.2.2.2.2 k (by omega)) (fun i a => by rw [hp242.2.2.2.2.2.2.2.2 580 (by omega)])
                  rw [hq]; exact ⟨rfl, h9, (fC2.trans f9.C).trans (fun k a => hp242.2.2.2.2.2.2.2.2 k (by omega))⟩
                exact w_iret V242 hx hb hret hK hS hM (hpost) hlocks dX8_read_251
              · exact absurd rfl c_227
            · have n_211 : ¬ σ.2.2.1.length ≤ p8 := fun q9 => c_211 ((nLe (a := σ.2.2.1.length) (b := p8) rfl rfl (by omega) (by omega)).mpr q9)
              have hrT : rTok σ.2.2.1 = .inl (5, p8) := by rw [ht8, hp8]; show t8 _ _ _ _ _ = _; unfold t8; rw [if_neg (by omega)]
              refine lv_aload_n hx hb dX8_read_214 rfl (lv_at hl 1 rfl) ?_
              refine lv_iconst (v := 5) hx hb dX8_read_215 (by decide) ?_
              refine lv_aload_n hx hb dX8_read_216 rfl (lv_at hl 1 rfl) ?_
              refine w_gi 8 40 (T := TX8) (N := 42) hx hb hts inw8 hown hK.1 hM (by decide) (by decide) (by decide) (by decide) (by decide) rfl (by decide) k240 rfl dX8_read_217 ?_
              have q : (V192 580 40 : Int32) = nI p8 := h40
              refine lv_eqi q ?_
              refine w_cVv (C := RX8) (As := [.int 5, .int (nI p8)]) (rest := []) ⟨hx, hb, hml, hown, hts⟩ (c_X8_wrong l c_200 5 (nI p8)) (cwV 2 hts gX8_read_X8_wrong rfl rfl rfl (by decide +kernel) ⟨Nat.le_of_ble_eq_true rfl, Nat.le_of_ble_eq_true rfl⟩) (w_recv (ci := 8) hK hM (by decide) (by decide) (by decide) rfl) hM hK hS rfl hl.1 rfl (lv_room (Nat.le_of_ble_eq_true rfl)) dX8_read_220 ⟨Nat.le_of_ble_eq_true rfl, Nat.le_of_ble_eq_true rfl⟩ (fun V220 H locs hp220 hM hS => ?_)
              have h9 := rdS.wr (V1 := V2) (l := σ.2.2.1) (ee := (5, p8)) hp220 rfl rfl ⟨by simp, by simp⟩
              refine lv_aload_n hx hb dX8_read_223 rfl (lv_at hl 1 rfl) ?_
              refine w_gi 8 41 (T := TX8) (N := 42) hx hb hts inw8 hown hK.1 hM (by decide) (by decide) (by decide) (by decide) (by decide) rfl (by decide) k237 rfl dX8_read_224 ?_
              have q : (V220 580 41 : Int32) = 5 := h9.1.1
              refine lv_eqi q ?_
              refine lv_if_eq (tgt := 238) hx hb dX8_read_227 (by decide) (fun c_227 => ?_) (fun c_227 => ?_)
              · exact absurd c_227 (by decide)
              · have n_227 : ¬ 5 = 0 := fun q9 => c_227 ((nEq (a := 5) (b := 0) rfl rfl (by omega) (by omega)).mpr q9)
                refine lv_bipush (v := (-10)) hx hb dX8_read_230 (by decide) ?_
                refine lv_aload_n hx hb dX8_read_232 rfl (lv_at hl 1 rfl) ?_
                refine w_gi 8 41 (T := TX8) (N := 42) hx hb hts inw8 hown hK.1 hM (by decide) (by decide) (by decide) (by decide) (by decide) rfl (by decide) k237 rfl dX8_read_233 ?_
                have q : (V220 580 41 : Int32) = 5 := h9.1.1
                refine lv_eqi q ?_
                refine lv_isub hx hb dX8_read_236 ?_
                have hpost : (fun v V' => v = (opRead σ t).1 ∧ repM V' (opRead σ t).2 ∧ frC V V') ((-10) - 5) V220 := by
                  have hq : opRead σ t = (-10 - nI 5, sPlc σ (nI p8)) := by simp only [opRead, i1, if_true, hrT]
                  have f10 := f9.trans h9.2.R
                  rw [hq]; exact ⟨rfl, hC2.plc f10 h9.1.2.2, fC2.trans f10.C⟩
                exact w_iret V220 hx hb hret hK hS hM (hpost) hlocks dX8_read_237
        · refine lv_aload_n hx hb dX8_read_80 rfl (lv_at hl 0 rfl) ?_
          refine w_gi 8 41 (T := TX8) (N := 42) hx hb hts inw8 hown hK.1 hM (by decide) (by decide) (by decide) (by decide) (by decide) rfl (by decide) k237 rfl dX8_read_81 ?_
          refine lv_if_ne (tgt := 174) hx hb dX8_read_84 (by decide) (fun c_84 => ?_) (fun c_84 => ?_)
          · have h6 : rTok σ.2.2.1 = kS x (t6 σ.2.2.1 nm acc) := by obtain ⟨e9, he9, -⟩ := hx0.nz c_84; rcases hm with q | q; (rw [q.2, he9]; rfl); (exact q.2)
            refine lv_aload_n hx hb dX8_read_174 rfl (lv_at hl 0 rfl) ?_
            refine lv_bipush (v := 6) hx hb dX8_read_175 (by decide) ?_
            refine w_cVv (C := RX8) (As := [.int 6]) (rest := []) ⟨hx, hb, hml, hown, hts⟩ (c_X8_want l (hfr.bf cP) oP.1 hx0 6) (cwV 1 hts gX8_read_X8_want rfl rfl rfl (by decide +kernel) ⟨Nat.le_of_ble_eq_true rfl, Nat.le_of_ble_eq_true rfl⟩) (w_recv (ci := 8) hK hM (by decide) (by decide) (by decide) rfl) hM hK hS rfl hl.1 rfl (lv_room (Nat.le_of_ble_eq_true rfl)) dX8_read_177 ⟨Nat.le_of_ble_eq_true rfl, Nat.le_of_ble_eq_true rfl⟩ (fun V177 H locs hp177 hM hS => ?_)
            obtain ⟨x7, rd177, fn177, ht7, hx7⟩ : ∃ x7, rdS V177 σ.2.2.1 x7 ∧ frN Vw V177 ∧ rTok σ.2.2.1 = kS x7 (t7 σ.2.2.1 nm acc) ∧ (∀ p1, x7 = .inr p1 → ∃ p2, x = .inr p2) := ⟨_, hp177.1, hp177.2, h6.trans (kS_k x _ _).symm, fun p1 q => by obtain ⟨q0, hq0, -⟩ := kS_inr q; exact ⟨q0, hq0⟩⟩
            refine lv_aload_n hx hb dX8_read_180 rfl (lv_at hl 0 rfl) ?_
            refine lv_aload_n hx hb dX8_read_181 rfl (lv_at hl 0 rfl) ?_
            refine w_gr 8 29 604 (T := TX8) (N := 42) hx hb hts inw8 hown hK.1 hM (by decide) (by decide) (by decide) (by decide) (by decide) rfl (by decide) k84 rfl dX8_read_182 ?_
            refine lv_sipush (v := 256) hx hb dX8_read_185 (by decide) ?_
            refine lv_bipush (v := 32) hx hb dX8_read_188 (by decide) ?_
            refine lv_bipush (v := 32) hx hb dX8_read_190 (by decide) ?_
            refine w_cVi (C := RX8) (As := [.ref (E.1 + 604), .int 256, .int 32, .int 32]) (rest := []) ⟨hx, hb, hml, hown, hts⟩ (c_X8_readRow l a604 (by decide) (fn177.bf (hfr.bf cP)) oP.1 rd177 oP.2 (b := 256) (lo := 32) (hi := 32) (by omega) (by omega) (by omega)) (cwV 4 hts gX8_read_X8_readRow rfl rfl rfl (by decide +kernel) ⟨Nat.le_of_ble_eq_true rfl, Nat.le_of_ble_eq_true rfl⟩) (w_recv (ci := 8) hK hM (by decide) (by decide) (by decide) rfl) hM hK hS rfl hl.1 rfl (lv_room (Nat.le_of_ble_eq_true rfl)) dX8_read_192 ⟨Nat.le_of_ble_eq_true rfl, Nat.le_of_ble_eq_true rfl⟩ (fun r192 V192 H locs hp192 hM hS => ?_)
            obtain ⟨x8, sg, rd192, f192, ht8, hn192⟩ : ∃ x8 sg, rdS V192 σ.2.2.1 x8 ∧ frRw V177 V192 604 256 32 ∧ rTok σ.2.2.1 = kS x8 (t8 σ.2.2.1 nm acc sg) ∧ ∀ p1, x8 = .inr p1 → seg V192 604 256 sg ∧ ∃ p2, x7 = .inr p2 := ⟨sS (rb σ.2.2.1 32 32 x7), bsOf [] (rb σ.2.2.1 32 32 x7), hp192.1, hp192.2.2, ht7.trans ((kS_2 x7 _ _).symm.trans (kS2_s [] _ _)), fun p1 q => ⟨(hp192.2.1 _ _ (sS_inr _ q)).2, by have q2 := sS_inr ([] : List Int32) q; cases x7 with | inl e9 => cases q2 | inr p9 => exact ⟨p9, rfl⟩⟩⟩
            have f9 : frQ V2 V192 := (hfr.trans fn177.R).trans f192.S
            refine lv_istore_n (lv' := [(3, .int r192), (0, .ref (E.1 + 580)), (1, .int t), (2, .int mo)]) hx hb dX8_read_195 rfl hl (by decide) rfl (fun ls hl => ?_)
            refine lv_aload_n hx hb dX8_read_196 rfl (lv_at hl 1 rfl) ?_
            refine w_gi 8 41 (T := TX8) (N := 42) hx hb hts inw8 hown hK.1 hM (by decide) (by decide) (by decide) (by decide) (by decide) rfl (by decide) k237 rfl dX8_read_197 ?_
            refine lv_if_ne (tgt := 223) hx hb dX8_read_200 (by decide) (fun c_200 => ?_) (fun c_200 => ?_)
            · obtain ⟨e8, he8, h41, h15, h20⟩ := rd192.nz c_200
              have hrT : rTok σ.2.2.1 = .inl e8 := by rw [ht8, he8]; rfl
              refine lv_aload_n hx hb dX8_read_223 rfl (lv_at hl 1 rfl) ?_
              refine w_gi 8 41 (T := TX8) (N := 42) hx hb hts inw8 hown hK.1 hM (by decide) (by decide) (by decide) (by decide) (by decide) rfl (by decide) k237 rfl dX8_read_224 ?_
              refine lv_if_eq (tgt := 238) hx hb dX8_read_227 (by decide) (fun c_227 => ?_) (fun c_227 => ?_)
              · exact absurd c_227 c_200
              · refine lv_bipush (v := (-10)) hx hb dX8_read_230 (by decide) ?_
                refine lv_aload_n hx hb dX8_read_232 rfl (lv_at hl 1 rfl) ?_
                refine w_gi 8 41 (T := TX8) (N := 42) hx hb hts inw8 hown hK.1 hM (by decide) (by decide) (by decide) (by decide) (by decide) rfl (by decide) k237 rfl dX8_read_233 ?_
                refine lv_isub hx hb dX8_read_236 ?_
                have hpost : (fun v V' => v = (opRead σ t).1 ∧ repM V' (opRead σ t).2 ∧ frC V V') ((-10) - (V192 580 41)) V192 := by
                  have hq : opRead σ t = (-10 - nI e8.1, sPlc σ (nI e8.2)) := by simp only [opRead, i1, if_true, hrT]
                  rw [hq]; exact ⟨by rw [h41], hC2.plc f9 h20, fC2.trans f9.C⟩
                exact w_iret V192 hx hb hret hK hS hM (hpost) hlocks dX8_read_237
            · have oP1 := oP.1
              obtain ⟨p8, hp8, h40, hpl8, h20⟩ := rd192.z c_200
              refine lv_aload_n hx hb dX8_read_203 rfl (lv_at hl 1 rfl) ?_
              refine w_gi 8 40 (T := TX8) (N := 42) hx hb hts inw8 hown hK.1 hM (by decide) (by decide) (by decide) (by decide) (by decide) rfl (by decide) k240 rfl dX8_read_204 ?_
              have q : (V192 580 40 : Int32) = nI p8 := h40
              refine lv_eqi q ?_
              refine lv_aload_n hx hb dX8_read_207 rfl (lv_at hl 1 rfl) ?_
              refine w_gi 8 19 (T := TX8) (N := 42) hx hb hts inw8 hown hK.1 hM (by decide) (by decide) (by decide) (by decide) (by decide) rfl (by decide) k227 rfl dX8_read_208 ?_
              have q : (V192 580 19 : Int32) = nI σ.2.2.1.length := (f9.bf cP).1
              refine lv_eqi q ?_
              refine lv_icmp_ge (tgt := 223) hx hb dX8_read_211 (by decide) (fun c_211 => ?_) (fun c_211 => ?_)
              · have n_211 : σ.2.2.1.length ≤ p8 := (nLe (a := σ.2.2.1.length) (b := p8) rfl rfl (by omega) (by omega)).mp c_211
                obtain ⟨p7, hp7⟩ := (hn192 p8 hp8).2
                obtain ⟨p9, hp9⟩ := hx7 p7 hp7
                have hrT : rTok σ.2.2.1 = .inr (nm, sg, acc) := by rw [ht8, hp8]; show t8 _ _ _ _ _ = _; unfold t8; rw [if_pos (by omega)]
                refine lv_aload_n hx hb dX8_read_223 rfl (lv_at hl 1 rfl) ?_
                refine w_gi 8 41 (T := TX8) (N := 42) hx hb hts inw8 hown hK.1 hM (by decide) (by decide) (by decide) (by decide) (by decide) rfl (by decide) k237 rfl dX8_read_224 ?_
                have q : (V192 580 41 : Int32) = 0 := c_200
                refine lv_eqi q ?_
                refine lv_if_eq (tgt := 238) hx hb dX8_read_227 (by decide) (fun c_227 => ?_) (fun c_227 => ?_)
                · have n_227 : 0 = 0 := (nEq (a := 0) (b := 0) rfl rfl (by omega) (by omega)).mp c_227
                  refine lv_aload_n hx hb dX8_read_238 rfl (lv_at hl 1 rfl) ?_
                  refine lv_bipush (v := 8) hx hb dX8_read_239 (by decide) ?_
                  refine lv_iload_n hx hb dX8_read_241 rfl (lv_at hl 2 rfl) ?_
                  refine w_cVv (C := RX8) (As := [.int 8, .int t]) (rest := []) ⟨hx, hb, hml, hown, hts⟩ (c_X8_copyToken l (ta := 8) (tb := rj t) (by omega) (by omega) rfl ent) (cwV 2 hts gX8_read_X8_copyToken rfl rfl rfl (by decide +kernel) ⟨Nat.le_of_ble_eq_true rfl, Nat.le_of_ble_eq_true rfl⟩) (w_recv (ci := 8) hK hM (by decide) (by decide) (by decide) rfl) hM hK hS rfl hl.1 rfl (lv_room (Nat.le_of_ble_eq_true rfl)) dX8_read_242 ⟨Nat.le_of_ble_eq_true rfl, Nat.le_of_ble_eq_true rfl⟩ (fun V242 H locs hp242 hM hS => ?_)
                  have hTT : mTokIs V192 8 (nm, sg, acc) := ⟨by rw [f192.2.1 597 (by decide) (by decide), fn177.1 597 (by decide)]; exact (hnd p9 hp9).1, (hnd p9 hp9).2.keep (by rw [f192.2.1 598 (by decide) (by decide), fn177.1 598 (by decide)]), by rw [f192.2.1 599 (by decide) (by decide), fn177.1 599 (by decide)]; exact hac, (hn192 p8 hp8).1, fun j hj => by have d := hdt p9 hp9 j hj; exact d.1.fn d.2.1 d.2.2 (by rw [f192.2.1 600 (by decide) (by decide), fn177.1 600 (by decide)]) (fun i a b => by rw [f192.2.1 601 (by decide) (by decide), fn177.1 601 (by decide)]) (by rw [f192.2.1 602 (by decide) (by decide), fn177.1 602 (by decide)]) (fun i a b => by rw [f192.2.1 603 (by decide) (by decide), fn177.1 603 (by decide)])⟩
                  have hok := rTok_ok oP.2 hrT
                  have h26 := hp242.tok hTT hok
                  refine lv_aload_n hx hb dX8_read_245 rfl (lv_at hl 1 rfl) ?_
                  refine w_gr 8 24 599 (T := TX8) (N := 42) hx hb hts inw8 hown hK.1 hM (by decide) (by decide) (by decide) (by decide) (by decide) rfl (by decide) k69 rfl dX8_read_246 ?_
                  refine lv_iload_n hx hb dX8_read_249 rfl (lv_at hl 2 rfl) ?_
                  have i_250 : (t : Int32) = nI (rj t) := ent
                  refine w_ild (N := 9) hx hb hK.1 hM (by decide) (by decide) (by decide) (by rw [i_250]; exact vp_in_nI (by omega) (by omega)) dX8_read_250 ?_
                  have j_250 : t.toNatClampNeg = rj t := (congrArg Int32.toNatClampNeg i_250).trans (nI_clamp (by omega))
                  have q : (V242 599 t.toNatClampNeg : Int32) = V242 599 (rj t) := by rw [j_250]
                  refine lv_eqi q ?_
                  have q : (V242 599 (rj t) : Int32) = nI acc.length := h26.2.2.2.1
                  refine lv_eqi q ?_
                  have hpost : (fun v V' => v = (opRead σ t).1 ∧ repM V' (opRead σ t).2 ∧ frC V V') (nI acc.length) V242 := by
                    have hq : opRead σ t = (nI acc.length, sTok (sPlc σ (-1)) (rj t) (some (nm, sg, acc))) := by simp only [opRead, i1, if_true, hrT]
                    have h9 := (hC2.plc f9 h20).tok h8t (o := some (nm, sg, acc)) h26 (fun T2 h2 => by cases h2; exact hok) (fun z _ hz => hp242.2.2.2.2.2.2.2.1 z hz) (fun k a => hp242.2.2.2.2.2.2.2.2 k (by omega)) (fun i a => by rw [hp242.2.2.2.2.2.2.2.2 580 (by omega)])
                    rw [hq]; exact ⟨rfl, h9, (fC2.trans f9.C).trans (fun k a => hp242.2.2.2.2.2.2.2.2 k (by omega))⟩
                  exact w_iret V242 hx hb hret hK hS hM (hpost) hlocks dX8_read_251
                · exact absurd rfl c_227
              · have n_211 : ¬ σ.2.2.1.length ≤ p8 := fun q9 => c_211 ((nLe (a := σ.2.2.1.length) (b := p8) rfl rfl (by omega) (by omega)).mpr q9)
                have hrT : rTok σ.2.2.1 = .inl (5, p8) := by rw [ht8, hp8]; show t8 _ _ _ _ _ = _; unfold t8; rw [if_neg (by omega)]
                refine lv_aload_n hx hb dX8_read_214 rfl (lv_at hl 1 rfl) ?_
                refine lv_iconst (v := 5) hx hb dX8_read_215 (by decide) ?_
                refine lv_aload_n hx hb dX8_read_216 rfl (lv_at hl 1 rfl) ?_
                refine w_gi 8 40 (T := TX8) (N := 42) hx hb hts inw8 hown hK.1 hM (by decide) (by decide) (by decide) (by decide) (by decide) rfl (by decide) k240 rfl dX8_read_217 ?_
                have q : (V192 580 40 : Int32) = nI p8 := h40
                refine lv_eqi q ?_
                refine w_cVv (C := RX8) (As := [.int 5, .int (nI p8)]) (rest := []) ⟨hx, hb, hml, hown, hts⟩ (c_X8_wrong l c_200 5 (nI p8)) (cwV 2 hts gX8_read_X8_wrong rfl rfl rfl (by decide +kernel) ⟨Nat.le_of_ble_eq_true rfl, Nat.le_of_ble_eq_true rfl⟩) (w_recv (ci := 8) hK hM (by decide) (by decide) (by decide) rfl) hM hK hS rfl hl.1 rfl (lv_room (Nat.le_of_ble_eq_true rfl)) dX8_read_220 ⟨Nat.le_of_ble_eq_true rfl, Nat.le_of_ble_eq_true rfl⟩ (fun V220 H locs hp220 hM hS => ?_)
                have h9 := rdS.wr (V1 := V2) (l := σ.2.2.1) (ee := (5, p8)) hp220 rfl rfl ⟨by simp, by simp⟩
                refine lv_aload_n hx hb dX8_read_223 rfl (lv_at hl 1 rfl) ?_
                refine w_gi 8 41 (T := TX8) (N := 42) hx hb hts inw8 hown hK.1 hM (by decide) (by decide) (by decide) (by decide) (by decide) rfl (by decide) k237 rfl dX8_read_224 ?_
                have q : (V220 580 41 : Int32) = 5 := h9.1.1
                refine lv_eqi q ?_
                refine lv_if_eq (tgt := 238) hx hb dX8_read_227 (by decide) (fun c_227 => ?_) (fun c_227 => ?_)
                · exact absurd c_227 (by decide)
                · have n_227 : ¬ 5 = 0 := fun q9 => c_227 ((nEq (a := 5) (b := 0) rfl rfl (by omega) (by omega)).mpr q9)
                  refine lv_bipush (v := (-10)) hx hb dX8_read_230 (by decide) ?_
                  refine lv_aload_n hx hb dX8_read_232 rfl (lv_at hl 1 rfl) ?_
                  refine w_gi 8 41 (T := TX8) (N := 42) hx hb hts inw8 hown hK.1 hM (by decide) (by decide) (by decide) (by decide) (by decide) rfl (by decide) k237 rfl dX8_read_233 ?_
                  have q : (V220 580 41 : Int32) = 5 := h9.1.1
                  refine lv_eqi q ?_
                  refine lv_isub hx hb dX8_read_236 ?_
                  have hpost : (fun v V' => v = (opRead σ t).1 ∧ repM V' (opRead σ t).2 ∧ frC V V') ((-10) - 5) V220 := by
                    have hq : opRead σ t = (-10 - nI 5, sPlc σ (nI p8)) := by simp only [opRead, i1, if_true, hrT]
                    have f10 := f9.trans h9.2.R
                    rw [hq]; exact ⟨rfl, hC2.plc f10 h9.1.2.2, fC2.trans f10.C⟩
                  exact w_iret V220 hx hb hret hK hS hM (hpost) hlocks dX8_read_237
          · obtain ⟨p1, hxp, h40, hple, h20⟩ := hx0.z c_84
            obtain ⟨hmo, htk⟩ : mo = 1 ∧ rTok σ.2.2.1 = kS x (t5 σ.2.2.1 nm (10 - acc.length) acc) := by rcases hm with q | q; (exact q); (exact absurd q.1 c_77)
            have htp : rTok σ.2.2.1 = t5 σ.2.2.1 nm (10 - acc.length) acc p1 := by rw [htk, hxp]; rfl
            refine lv_aload_n hx hb dX8_read_87 rfl (lv_at hl 0 rfl) ?_
            refine w_cVi (C := RX8) (As := []) (rest := []) ⟨hx, hb, hml, hown, hts⟩ (c_X8_next l (hfr.bf cP) oP.1 hx0) (cwV 0 hts gX8_read_X8_next rfl rfl rfl (by decide +kernel) ⟨Nat.le_of_ble_eq_true rfl, Nat.le_of_ble_eq_true rfl⟩) (w_recv (ci := 8) hK hM (by decide) (by decide) (by decide) rfl) hM hK hS rfl hl.1 rfl (lv_room (Nat.le_of_ble_eq_true rfl)) dX8_read_88 ⟨Nat.le_of_ble_eq_true rfl, Nat.le_of_ble_eq_true rfl⟩ (fun r88 V88 H locs hp88 hM hS => ?_)
            obtain ⟨ev88, rd88, fn88⟩ := hp88
            refine lv_istore_n (lv' := [(3, .int r88), (0, .ref (E.1 + 580)), (1, .int t), (2, .int mo)]) hx hb dX8_read_91 rfl hl (by decide) rfl (fun ls hl => ?_)
            refine lv_iload_n hx hb dX8_read_92 rfl (lv_at hl 0 rfl) ?_
            refine lv_iconst (v := 2) hx hb dX8_read_93 (by decide) ?_
            refine lv_icmp_ne (tgt := 101) hx hb dX8_read_94 (by decide) (fun c_94 => ?_) (fun c_94 => ?_)
            · refine lv_iconst (v := 0) hx hb dX8_read_101 (by decide) ?_
              refine lv_istore_n (lv' := [(2, .int 0), (3, .int r88), (0, .ref (E.1 + 580)), (1, .int t)]) hx hb dX8_read_102 rfl hl (by decide) rfl (fun ls hl => ?_)
              refine lv_aload_n hx hb dX8_read_103 rfl (lv_at hl 2 rfl) ?_
              refine w_gi 8 41 (T := TX8) (N := 42) hx hb hts inw8 hown hK.1 hM (by decide) (by decide) (by decide) (by decide) (by decide) rfl (by decide) k237 rfl dX8_read_104 ?_
              refine lv_if_ne (tgt := 133) hx hb dX8_read_107 (by decide) (fun c_107 => ?_) (fun c_107 => ?_)
              · refine lv_iload_n hx hb dX8_read_133 rfl (lv_at hl 0 rfl) ?_
                refine lv_if_eq (tgt := 163) hx hb dX8_read_134 (by decide) (fun c_134 => ?_) (fun c_134 => ?_)
                · have n_134 : 0 = 0 := (nEq (a := 0) (b := 0) rfl rfl (by omega) (by omega)).mp c_134
                  refine lv_iload_n hx hb dX8_read_163 rfl (lv_at hl 0 rfl) ?_
                  refine lv_if_eq (tgt := 171) hx hb dX8_read_164 (by decide) (fun c_164 => ?_) (fun c_164 => ?_)
                  · have n_164 : 0 = 0 := (nEq (a := 0) (b := 0) rfl rfl (by omega) (by omega)).mp c_164
                    refine lv_goto (tgt := 76) hx hb dX8_read_171 (by decide) ?_
                    have hrx : rz mo x = 2 := by rw [hmo, hxp]; rfl
                    have hrz := rz_0 (kS x (rMark σ.2.2.1 0))
                    have h6 : rTok σ.2.2.1 = kS (kS x (rMark σ.2.2.1 0)) (t6 σ.2.2.1 nm acc) := by rw [htp, hxp]; exact t5_n (fun q => c_94 (ev88.trans (by rw [hxp]; exact q)))
                    have fnz := fn88
                    exact ih76 V88 _ _ _ acc (kS x (rMark σ.2.2.1 0)) 0 (want_a rd88 c_107) (Or.inr ⟨rfl, h6⟩) (fun p2 q => by have := hnd p1 hxp; exact ⟨by rw [fnz.1 597 (by decide)]; exact this.1, this.2.keep (fnz.1 598 (by decide))⟩) (by rw [fnz.1 599 (by decide)]; exact hac) hal (fun p2 q j hj => by have d := hdt p1 hxp j hj; exact ⟨d.1.fn d.2.1 d.2.2 (by rw [fnz.1 600 (by decide)]) (fun i a b => by rw [fnz.1 601 (by decide)]) (by rw [fnz.1 602 (by decide)]) (fun i a b => by rw [fnz.1 603 (by decide)]), d.2⟩) (hfr.trans fnz.R) (by omega) hM hS (lv_sub hl [2, 3, 0] rfl)
                  · exact absurd rfl c_164
                · exact absurd rfl c_134
              · refine lv_iload_n hx hb dX8_read_110 rfl (lv_at hl 1 rfl) ?_
                refine lv_iconst (v := 2) hx hb dX8_read_111 (by decide) ?_
                refine lv_icmp_eq (tgt := 133) hx hb dX8_read_112 (by decide) (fun c_112 => ?_) (fun c_112 => ?_)
                · exact absurd c_112 c_94
                · refine lv_iload_n hx hb dX8_read_115 rfl (lv_at hl 1 rfl) ?_
                  refine lv_if_eq (tgt := 133) hx hb dX8_read_116 (by decide) (fun c_116 => ?_) (fun c_116 => ?_)
                  · refine lv_iload_n hx hb dX8_read_133 rfl (lv_at hl 0 rfl) ?_
                    refine lv_if_eq (tgt := 163) hx hb dX8_read_134 (by decide) (fun c_134 => ?_) (fun c_134 => ?_)
                    · have n_134 : 0 = 0 := (nEq (a := 0) (b := 0) rfl rfl (by omega) (by omega)).mp c_134
                      refine lv_iload_n hx hb dX8_read_163 rfl (lv_at hl 0 rfl) ?_
                      refine lv_if_eq (tgt := 171) hx hb dX8_read_164 (by decide) (fun c_164 => ?_) (fun c_164 => ?_)
                      · have n_164 : 0 = 0 := (nEq (a := 0) (b := 0) rfl rfl (by omega) (by omega)).mp c_164
                        refine lv_goto (tgt := 76) hx hb dX8_read_171 (by decide) ?_
                        have hrx : rz mo x = 2 := by rw [hmo, hxp]; rfl
                        have hrz := rz_0 (kS x (rMark σ.2.2.1 0))
                        have h6 : rTok σ.2.2.1 = kS (kS x (rMark σ.2.2.1 0)) (t6 σ.2.2.1 nm acc) := by rw [htp, hxp]; exact t5_n (fun q => c_94 (ev88.trans (by rw [hxp]; exact q)))
                        have fnz := fn88
                        exact ih76 V88 _ _ _ acc (kS x (rMark σ.2.2.1 0)) 0 (want_b rd88 c_107 (ev88.symm.trans c_116)) (Or.inr ⟨rfl, h6⟩) (fun p2 q => by have := hnd p1 hxp; exact ⟨by rw [fnz.1 597 (by decide)]; exact this.1, this.2.keep (fnz.1 598 (by decide))⟩) (by rw [fnz.1 599 (by decide)]; exact hac) hal (fun p2 q j hj => by have d := hdt p1 hxp j hj; exact ⟨d.1.fn d.2.1 d.2.2 (by rw [fnz.1 600 (by decide)]) (fun i a b => by rw [fnz.1 601 (by decide)]) (by rw [fnz.1 602 (by decide)]) (fun i a b => by rw [fnz.1 603 (by decide)]), d.2⟩) (hfr.trans fnz.R) (by omega) hM hS (lv_sub hl [2, 3, 0] rfl)
                      · exact absurd rfl c_164
                    · exact absurd rfl c_134
                  · obtain ⟨pa, hxa, h40a, hk⟩ := want_c (b := 0) rd88 c_107 (fun q => c_116 (ev88.trans q))
                    refine lv_aload_n hx hb dX8_read_119 rfl (lv_at hl 2 rfl) ?_
                    refine lv_iconst (v := 2) hx hb dX8_read_120 (by decide) ?_
                    refine lv_aload_n hx hb dX8_read_121 rfl (lv_at hl 2 rfl) ?_
                    refine w_gi 8 40 (T := TX8) (N := 42) hx hb hts inw8 hown hK.1 hM (by decide) (by decide) (by decide) (by decide) (by decide) rfl (by decide) k240 rfl dX8_read_122 ?_
                    have q : (V88 580 40 : Int32) = nI (pa + 1) := h40a
                    refine lv_eqi q ?_
                    refine lv_iconst (v := 1) hx hb dX8_read_125 (by decide) ?_
                    refine lv_isub hx hb dX8_read_126 ?_
                    refine w_cVv (C := RX8) (As := [.int 2, .int ((nI (pa + 1)) - 1)]) (rest := []) ⟨hx, hb, hml, hown, hts⟩ (c_X8_wrong l c_107 2 (nI (pa + 1) - 1)) (cwV 2 hts gX8_read_X8_wrong rfl rfl rfl (by decide +kernel) ⟨Nat.le_of_ble_eq_true rfl, Nat.le_of_ble_eq_true rfl⟩) (w_recv (ci := 8) hK hM (by decide) (by decide) (by decide) rfl) hM hK hS rfl hl.1 rfl (lv_room (Nat.le_of_ble_eq_true rfl)) dX8_read_127 ⟨Nat.le_of_ble_eq_true rfl, Nat.le_of_ble_eq_true rfl⟩ (fun V127 H locs hp127 hM hS => ?_)
                    refine lv_goto (tgt := 171) hx hb dX8_read_130 (by decide) ?_
                    refine lv_goto (tgt := 76) hx hb dX8_read_171 (by decide) ?_
                    have hrx : rz mo x = 2 := by rw [hmo, hxp]; rfl
                    have hrz := rz_0 (kS x (rMark σ.2.2.1 0))
                    have h6 : rTok σ.2.2.1 = kS (kS x (rMark σ.2.2.1 0)) (t6 σ.2.2.1 nm acc) := by rw [htp, hxp]; exact t5_n (fun q => c_94 (ev88.trans (by rw [hxp]; exact q)))
                    have h9 := rdS.wr (V1 := V2) (l := σ.2.2.1) (ee := (2, pa)) hp127 rfl ((nSub (b := 1) rfl rfl (by omega)).trans (by rw [Nat.add_sub_cancel])) ⟨by simp, by simp⟩
                    have fnz := (fn88.trans h9.2)
                    exact ih76 V127 _ _ _ acc (kS x (rMark σ.2.2.1 0)) 0 (by rw [hk]; exact h9.1) (Or.inr ⟨rfl, h6⟩) (fun p2 q => by have := hnd p1 hxp; exact ⟨by rw [fnz.1 597 (by decide)]; exact this.1, this.2.keep (fnz.1 598 (by decide))⟩) (by rw [fnz.1 599 (by decide)]; exact hac) hal (fun p2 q j hj => by have d := hdt p1 hxp j hj; exact ⟨d.1.fn d.2.1 d.2.2 (by rw [fnz.1 600 (by decide)]) (fun i a b => by rw [fnz.1 601 (by decide)]) (by rw [fnz.1 602 (by decide)]) (fun i a b => by rw [fnz.1 603 (by decide)]), d.2⟩) (hfr.trans fnz.R) (by omega) hM hS (lv_sub hl [2, 3, 0] rfl)
            · obtain ⟨p2, hx2, hpl1, hg2, hn2⟩ := nxv_in (ev88.symm.trans c_94) (by decide)
              have hp12 : p2 = p1 := by rw [hxp] at hx2; cases hx2; rfl
              subst p2
              have rd88p : rdS V88 σ.2.2.1 (.inr (p1 + 1)) := by rw [← hn2]; exact rd88
              refine lv_iconst (v := 1) hx hb dX8_read_97 (by decide) ?_
              refine lv_goto (tgt := 102) hx hb dX8_read_98 (by decide) ?_
              refine lv_istore_n (lv' := [(2, .int 1), (3, .int r88), (0, .ref (E.1 + 580)), (1, .int t)]) hx hb dX8_read_102 rfl hl (by decide) rfl (fun ls hl => ?_)
              refine lv_aload_n hx hb dX8_read_103 rfl (lv_at hl 2 rfl) ?_
              refine w_gi 8 41 (T := TX8) (N := 42) hx hb hts inw8 hown hK.1 hM (by decide) (by decide) (by decide) (by decide) (by decide) rfl (by decide) k237 rfl dX8_read_104 ?_
              have q : (V88 580 41 : Int32) = 0 := rd88p.1
              refine lv_eqi q ?_
              refine lv_if_ne (tgt := 133) hx hb dX8_read_107 (by decide) (fun c_107 => ?_) (fun c_107 => ?_)
              · exact absurd rfl c_107
              · have n_107 : 0 = 0 := (nEq (a := 0) (b := 0) rfl rfl (by omega) (by omega)).mp c_107
                refine lv_iload_n hx hb dX8_read_110 rfl (lv_at hl 1 rfl) ?_
                refine lv_iconst (v := 2) hx hb dX8_read_111 (by decide) ?_
                refine lv_icmp_eq (tgt := 133) hx hb dX8_read_112 (by decide) (fun c_112 => ?_) (fun c_112 => ?_)
                · refine lv_iload_n hx hb dX8_read_133 rfl (lv_at hl 0 rfl) ?_
                  refine lv_if_eq (tgt := 163) hx hb dX8_read_134 (by decide) (fun c_134 => ?_) (fun c_134 => ?_)
                  · exact absurd c_134 (by decide)
                  · have n_134 : ¬ 1 = 0 := fun q9 => c_134 ((nEq (a := 1) (b := 0) rfl rfl (by omega) (by omega)).mpr q9)
                    refine lv_aload_n hx hb dX8_read_137 rfl (lv_at hl 2 rfl) ?_
                    refine w_gr 8 24 599 (T := TX8) (N := 42) hx hb hts inw8 hown hK.1 hM (by decide) (by decide) (by decide) (by decide) (by decide) rfl (by decide) k69 rfl dX8_read_138 ?_
                    refine lv_bipush (v := 8) hx hb dX8_read_141 (by decide) ?_
                    have i_143 : (8 : Int32) = nI (8) := rfl
                    refine w_ild (N := 9) hx hb hK.1 hM (by decide) (by decide) (by decide) (by rw [i_143]; exact vp_in_nI (by omega) (by omega)) dX8_read_143 ?_
                    have j_143 : (8 : Int32).toNatClampNeg = 8 := (congrArg Int32.toNatClampNeg i_143).trans (nI_clamp (by omega))
                    have q : (V88 599 (8 : Int32).toNatClampNeg : Int32) = V88 599 8 := by rw [j_143]
                    refine lv_eqi q ?_
                    have q : (V88 599 8 : Int32) = nI acc.length := by rw [fn88.1 599 (by decide)]; exact hac
                    refine lv_eqi q ?_
                    refine lv_bipush (v := 10) hx hb dX8_read_144 (by decide) ?_
                    refine lv_icmp_ne (tgt := 163) hx hb dX8_read_146 (by decide) (fun c_146 => ?_) (fun c_146 => ?_)
                    · have n_146 : ¬ acc.length = 10 := fun q9 => c_146 ((nEq (a := acc.length) (b := 10) rfl rfl (by omega) (by omega)).mpr q9)
                      refine lv_iload_n hx hb dX8_read_163 rfl (lv_at hl 0 rfl) ?_
                      refine lv_if_eq (tgt := 171) hx hb dX8_read_164 (by decide) (fun c_164 => ?_) (fun c_164 => ?_)
                      · exact absurd c_164 (by decide)
                      · have n_164 : ¬ 1 = 0 := fun q9 => c_164 ((nEq (a := 1) (b := 0) rfl rfl (by omega) (by omega)).mpr q9)
                        refine lv_aload_n hx hb dX8_read_167 rfl (lv_at hl 2 rfl) ?_
                        refine w_cVv (C := RX8) (As := []) (rest := []) ⟨hx, hb, hml, hown, hts⟩ (c_X8_readLimit l (fn88.bf (hfr.bf cP)) oP.1 oP.2 (p0 := p1 + 1) rd88p (n8 := acc.length) (by rw [fn88.1 599 (by decide)]; exact hac) (by omega)) (cwV 0 hts gX8_read_X8_readLimit rfl rfl rfl (by decide +kernel) ⟨Nat.le_of_ble_eq_true rfl, Nat.le_of_ble_eq_true rfl⟩) (w_recv (ci := 8) hK hM (by decide) (by decide) (by decide) rfl) hM hK hS rfl hl.1 rfl (lv_room (Nat.le_of_ble_eq_true rfl)) dX8_read_168 ⟨Nat.le_of_ble_eq_true rfl, Nat.le_of_ble_eq_true rfl⟩ (fun V168 H locs hp168 hM hS => ?_)
                        refine lv_goto (tgt := 76) hx hb dX8_read_171 (by decide) ?_
                        obtain ⟨y, L, ry, hL, hyd, hy8, hfl⟩ := hp168
                        have e9 : acc.length < 10 := by omega
                        have e10 : 10 - acc.length = (10 - (acc ++ [L]).length) + 1 := by simp; omega
                        have hrx : rz mo x = 2 := by rw [hmo, hxp]; rfl
                        have hrz := rz_2 1 y
                        have hll : (acc ++ [L]).length = acc.length + 1 := by simp
                        exact ih76 V168 _ _ _ (acc ++ [L]) y 1 ry (Or.inl ⟨rfl, by rw [htp, e10]; exact t5_s hpl1 hg2 hL⟩) (fun p2 q => by have := hnd p1 hxp; exact ⟨by rw [hfl.2.2.2.2.2.1 597 (by omega) (by decide), fn88.1 597 (by decide)]; exact this.1, this.2.keep (by rw [hfl.2.2.2.2.2.1 598 (by omega) (by decide), fn88.1 598 (by decide)])⟩) (by rw [hll]; exact hy8) (by omega) (fun p2 q j hj => by by_cases qj : j = acc.length; (subst qj; rw [gd_snoc_eq]; exact hyd p2 q); (have hj2 : j < acc.length := (by omega); rw [gd_snoc_lt hj2]; have d := hdt p1 hxp j hj2; exact ⟨d.1.fn d.2.1 d.2.2 (by rw [hfl.2.1 _ (by omega), fn88.1 600 (by decide)]) (fun i a b => by rw [hfl.2.2.2.1 i (by omega), fn88.1 601 (by decide)]) (by rw [hfl.2.2.1 _ (by omega), fn88.1 602 (by decide)]) (fun i a b => by rw [hfl.2.2.2.2.1 i (by omega), fn88.1 603 (by decide)]), d.2⟩)) ((hfr.trans fn88.R).trans (hfl.R e9)) (by omega) hM hS (lv_sub hl [2, 3, 0] rfl)
                    · have n_146 : acc.length = 10 := (nEq (a := acc.length) (b := 10) rfl rfl (by omega) (by omega)).mp c_146
                      refine lv_aload_n hx hb dX8_read_149 rfl (lv_at hl 2 rfl) ?_
                      refine lv_iconst (v := 4) hx hb dX8_read_150 (by decide) ?_
                      refine lv_aload_n hx hb dX8_read_151 rfl (lv_at hl 2 rfl) ?_
                      refine w_gi 8 40 (T := TX8) (N := 42) hx hb hts inw8 hown hK.1 hM (by decide) (by decide) (by decide) (by decide) (by decide) rfl (by decide) k240 rfl dX8_read_152 ?_
                      have q : (V88 580 40 : Int32) = nI (p1 + 1) := rd88p.2.1
                      refine lv_eqi q ?_
                      refine lv_iconst (v := 1) hx hb dX8_read_155 (by decide) ?_
                      refine lv_isub hx hb dX8_read_156 ?_
                      refine w_cVv (C := RX8) (As := [.int 4, .int ((nI (p1 + 1)) - 1)]) (rest := []) ⟨hx, hb, hml, hown, hts⟩ (c_X8_wrong l rd88p.1 4 (nI (p1 + 1) - 1)) (cwV 2 hts gX8_read_X8_wrong rfl rfl rfl (by decide +kernel) ⟨Nat.le_of_ble_eq_true rfl, Nat.le_of_ble_eq_true rfl⟩) (w_recv (ci := 8) hK hM (by decide) (by decide) (by decide) rfl) hM hK hS rfl hl.1 rfl (lv_room (Nat.le_of_ble_eq_true rfl)) dX8_read_157 ⟨Nat.le_of_ble_eq_true rfl, Nat.le_of_ble_eq_true rfl⟩ (fun V157 H locs hp157 hM hS => ?_)
                      refine lv_goto (tgt := 171) hx hb dX8_read_160 (by decide) ?_
                      refine lv_goto (tgt := 76) hx hb dX8_read_171 (by decide) ?_
                      have h9 := rdS.wr (V1 := V2) (l := σ.2.2.1) (ee := (4, p1)) hp157 rfl ((nSub (b := 1) rfl rfl (by omega)).trans (by rw [Nat.add_sub_cancel])) ⟨by simp, by simp⟩
                      have e9 : acc.length = 10 := n_146
                      have hrx : rz mo x = 2 := by rw [hmo, hxp]; rfl
                      have hrz := rz_e 1 (4, p1)
                      exact ih76 V157 _ _ _ acc (.inl (4, p1)) 1 h9.1 (Or.inl ⟨rfl, by rw [htp, e9]; exact t5_4 hpl1 hg2⟩) (fun p2 q => by cases q) (by rw [h9.2.1 599 (by decide), fn88.1 599 (by decide)]; exact hac) hal (fun p2 q => by cases q) ((hfr.trans fn88.R).trans h9.2.R) (by omega) hM hS (lv_sub hl [2, 3, 0] rfl)
                · exact absurd c_94 c_112
    exact loop76 _ V71 _ _ _ ([]) _ _ (rd71) (Or.inl ⟨rfl, ht4⟩) (hn71) (h8z) (Nat.zero_le _) (fun _ _ j hj => absurd hj (by simp)) (f71) (Nat.lt_succ_self _) hM hS (lv_sub hl [1, 2, 0] rfl)
  · have i1 : in8 t = false := b2i_eq0 (by rw [← er6]; exact c_9)
    refine lv_bipush (v := (-2)) hx hb dX8_read_12 (by decide) ?_
    have hpost : (fun v V' => v = (opRead σ t).1 ∧ repM V' (opRead σ t).2 ∧ frC V V') (-2) V2 := by
      have hq : opRead σ t = (-2, σ) := by first | (simp [opRead, i1]; done)
      rw [hq]; exact ⟨rfl, hC2, fC2⟩
    exact w_iret V2 hx hb hret hK hS hM (hpost) hlocks dX8_read_14
