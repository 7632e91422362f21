set_option maxHeartbeats 4000000 in
set_option maxRecDepth 100000 in
theorem c_X2_helperNamed (l : Launch) {E : En} {V : Vt} {tk : Nat → Tk} {D : Nat → Bool} (hE : tkE V tk D) {k cap : Nat} (hk : isRow k cap) {tx : List Int32} (hx0 : rowIs V k tx) (hxl : tx.length ≤ cap) {m0 : Nat} (hm : V 2 6 = nI m0) (hm2 : m0 < 256) (hmD : ∀ h, h < 8 → m0.testBit h = true → D h = true) : CI l yX2_helperNamed wsX2_helperNamed 1 E V [.ref (E.1 + 2), .ref (E.1 + k)] (fun r V' => r = (match fH (fun h => m0.testBit h && decide ((tk h).1 = tx)) 8 0 with | none => -1 | some h => nI h) ∧ V' = V) := by
  refine Met.ofW (cc := cX2_helperNamed) (maxL := 3) (ret := (some .int)) (by decide) rfl ?_
  intro p e s m args below meth c s₁ B hml hv
  obtain ⟨rfl, hM, hK⟩ := hv
  have hx := B.exec
  have hb := B.bytes
  have hret := B.returns
  have hts := atoms_spec (ws := wsX2_helperNamed) B.pre
  have hown : s.vm.findClass RX2 = some m.cls := findClass_of_methodNamed B.named
  have hlocks := B.notSynchronized
  have hsz : s.heap.size = E.1 + 610 := hM.1
  have hS : va_S (AE E) s.heap s.heap [] := va_S.rf
  have in2 : ∀ w ∈ u_ws RX2 TX2 11, w ∈ wsX2_helperNamed := by decide +kernel
  have in6 : ∀ w ∈ u_ws RX6 TX6 5, w ∈ wsX2_helperNamed := by decide +kernel
  have k57 := hts (.fieldLink RX2 57 "LimitTokens$Prover" "waiting" "I") (by decide +kernel)
  have k11 := hts (.fieldLink RX2 11 "LimitTokens$Prover" "tokens" "[LLimitTokens$Token;") (by decide +kernel)
  have k63 := hts (.fieldLink RX2 63 "LimitTokens$Token" "name" "LLimitTokens$Row;") (by decide +kernel)
  have hl := lv_entry ([.ref (E.1 + 2), .ref (E.1 + k)]) (n := 3) (Nat.le_of_ble_eq_true rfl)
  rw [lg_entry_eq]
  generalize (lg_sl ([.ref (E.1 + 2), .ref (E.1 + k)]) ++ List.replicate (3 - (lg_sl ([.ref (E.1 + 2), .ref (E.1 + k)])).length) Slot.unset).toArray = ls at hl ⊢
  have hl : lv_has ls 3 [(0, .ref (E.1 + 2)), (1, .ref (E.1 + k))] := hl
  refine lv_iconst (v := 0) hx hb dX2_helperNamed_0 (by decide) ?_
  refine lv_istore_n (lv' := [(2, .int 0), (0, .ref (E.1 + 2)), (1, .ref (E.1 + k))]) hx hb dX2_helperNamed_1 rfl hl (by decide) rfl (fun ls hl => ?_)
  have loop2 : ∀ (fu : Nat) (Vw : Vt) (H : Heap) (locs : List Loc) (ls : Array Slot) (j : Nat) (x : Int32) (ex : x = nI j) (hj : j ≤ 8) (eV : Vw = V) (hfh : fH (fun h => m0.testBit h && decide ((tk h).1 = tx)) (8 - j) j = fH (fun h => m0.testBit h && decide ((tk h).1 = tx)) 8 0), 8 - j < fu → Wd E Vw H → va_S (AE E) s.heap H locs → lv_has ls 3 [(0, .ref (E.1 + 2)), (1, .ref (E.1 + k)), (2, .int x)] → W p l e (headSpec wsX2_helperNamed (rmD 1)).room s m ([.ref (E.1 + 2), .ref (E.1 + k)] : List Value).toArray below meth c H locs 0 0 (MQ below (QI E (fun V' => Wd E V') (fun r V' => r = (match fH (fun h => m0.testBit h && decide ((tk h).1 = tx)) 8 0 with | none => -1 | some h => nI h) ∧ V' = V)) ([.ref (E.1 + 2), .ref (E.1 + k)] : List Value).toArray s 0 0 (AE E)) (F0 m 2 ls []) := by
    intro fu
    induction fu with
    | zero => intros; omega
    | succ fu ih =>
      intro Vw H locs ls j x ex hj eV hfh hfu hM hS hl
      refine lv_iload_n hx hb dX2_helperNamed_2 rfl (lv_at hl 2 rfl) ?_
      refine lv_bipush (v := 8) hx hb dX2_helperNamed_3 (by decide) ?_
      refine lv_icmp_ge (tgt := 44) hx hb dX2_helperNamed_5 (by decide) (fun c_5 => ?_) (fun c_5 => ?_)
      · refine lv_iconst (v := (-1)) hx hb dX2_helperNamed_44 (by decide) ?_
        exact w_iret Vw hx hb hret hK hS hM (⟨by (have := nI_lei (a := 8) ex c_5 (by omega) (by omega)); (rw [← hfh, show 8 - j = 0 by omega]; rfl), eV⟩) hlocks dX2_helperNamed_45
      · have hlt := nI_ltn (a := 8) ex c_5 (by omega) (by omega)
        refine lv_aload_n hx hb dX2_helperNamed_8 rfl (lv_at hl 0 rfl) ?_
        refine w_gi 2 6 (T := TX2) (N := 11) hx hb hts in2 hown hK.1 hM (by decide) (by decide) (by decide) (by decide) (by decide) rfl (by decide) k57 rfl dX2_helperNamed_9 ?_
        have q : (Vw 2 6 : Int32) = nI m0 := by rw [eV]; exact hm
        refine lv_eqi q ?_
        refine lv_iload_n hx hb dX2_helperNamed_12 rfl (lv_at hl 2 rfl) ?_
        refine lv_ishr hx hb dX2_helperNamed_13 ?_
        refine lv_iconst (v := 1) hx hb dX2_helperNamed_14 (by decide) ?_
        refine lv_iand hx hb dX2_helperNamed_15 ?_
        refine lv_iconst (v := 1) hx hb dX2_helperNamed_16 (by decide) ?_
        refine lv_icmp_ne (tgt := 38) hx hb dX2_helperNamed_17 (by decide) (fun c_17 => ?_) (fun c_17 => ?_)
        · obtain ⟨x2_38, ex2_38⟩ : ∃ y : Int32, y = x + 1 := ⟨_, rfl⟩
          refine lv_iinc (v := x2_38) (lv' := [(2, .int x2_38), (0, .ref (E.1 + 2)), (1, .ref (E.1 + k))]) hx hb dX2_helperNamed_38 hl (k := 2) rfl (by rw [ex2_38]; rfl) (by decide) rfl (fun ls hl => ?_)
          refine lv_goto (tgt := 2) hx hb dX2_helperNamed_41 (by decide) ?_
          exact ih Vw _ _ _ (j + 1) _ (by rw [ex2_38, ex, nI_1]) (by omega) eV (by rw [← hfh, show 8 - j = (8 - (j + 1)) + 1 by omega, fH_s, if_neg]; intro hq; simp only [Bool.and_eq_true, decide_eq_true_eq] at hq; first | exact c_17 (by rw [ex, bit_at m0 hm2 j hlt, if_pos hq.1]) | (rw [er30, if_pos hq.2] at c_33; exact absurd c_33 (by decide))) (by omega) hM hS (lv_sub hl [1, 2, 0] rfl)
        · have hbt : m0.testBit j = true := by
            rw [ex, bit_at m0 hm2 j hlt] at c_17
            by_cases hq : m0.testBit j = true
            · exact hq
            · rw [if_neg hq] at c_17; exact absurd c_17 (by decide)
          obtain ⟨htk, hok⟩ := hE.1 j hlt (hmD j hlt hbt)
          refine lv_aload_n hx hb dX2_helperNamed_20 rfl (lv_at hl 0 rfl) ?_
          refine w_gr 2 0 3 (T := TX2) (N := 11) hx hb hts in2 hown hK.1 hM (by decide) (by decide) (by decide) (by decide) (by decide) rfl (by decide) k11 rfl dX2_helperNamed_21 ?_
          refine lv_iload_n hx hb dX2_helperNamed_24 rfl (lv_at hl 2 rfl) ?_
          refine w_ald (N := 8) 4 hx hb hK.1 hM (by decide) (by first | rfl | (rw [(by decide)]; rfl)) (by first | decide | (rw [(by decide)]; decide)) (by decide) (by rw [ex]; exact vp_in_nI hlt (by omega)) (25 + 60 * j) (by rw [ex]; exact sf_3 hlt) dX2_helperNamed_25 ?_
          refine w_gr 6 0 (25 + 60 * j + 1) (T := TX6) (N := 5) hx hb hts in6 hown hK.1 hM ((tok_t hlt)).lt ((tok_t hlt)).k ((tok_t hlt)).n ((tok_t hlt)).f0 (by decide) rfl (by decide) k63 rfl dX2_helperNamed_26 ?_
          refine lv_aload_n hx hb dX2_helperNamed_29 rfl (lv_at hl 1 rfl) ?_
          refine w_cVi (C := RX3) (As := [.ref (E.1 + k)]) (rest := []) ⟨hx, hb, hml, hown, hts⟩ (c_X3_isSameAs l (tok_t hlt).name hk (by rw [eV]; exact htk.1) (by rw [eV]; exact hx0) hok.1.2.1 hxl) (cwV 1 hts gX2_helperNamed_X3_isSameAs rfl rfl rfl (by decide +kernel) ⟨Nat.le_of_ble_eq_true rfl, Nat.le_of_ble_eq_true rfl⟩) (w_recv (ci := 3) hK hM (((tok_t hlt)).name).lt (((tok_t hlt)).name).k (by decide) rfl) hM hK hS rfl hl.1 rfl (lv_room (Nat.le_of_ble_eq_true rfl)) dX2_helperNamed_30 ⟨Nat.le_of_ble_eq_true rfl, Nat.le_of_ble_eq_true rfl⟩ (fun r30 V30 H locs hp30 hM hS => ?_)
          obtain ⟨er30, eV⟩ := hp30
          rw [eV] at hM; clear eV
          refine lv_if_eq (tgt := 38) hx hb dX2_helperNamed_33 (by decide) (fun c_33 => ?_) (fun c_33 => ?_)
          · obtain ⟨x2_38, ex2_38⟩ : ∃ y : Int32, y = x + 1 := ⟨_, rfl⟩
            refine lv_iinc (v := x2_38) (lv' := [(2, .int x2_38), (0, .ref (E.1 + 2)), (1, .ref (E.1 + k))]) hx hb dX2_helperNamed_38 hl (k := 2) rfl (by rw [ex2_38]; rfl) (by decide) rfl (fun ls hl => ?_)
            refine lv_goto (tgt := 2) hx hb dX2_helperNamed_41 (by decide) ?_
            exact ih Vw _ _ _ (j + 1) _ (by rw [ex2_38, ex, nI_1]) (by omega) eV (by rw [← hfh, show 8 - j = (8 - (j + 1)) + 1 by omega, fH_s, if_neg]; intro hq; simp only [Bool.and_eq_true, decide_eq_true_eq] at hq; first | exact c_17 (by rw [ex, bit_at m0 hm2 j hlt, if_pos hq.1]) | (rw [er30, if_pos hq.2] at c_33; exact absurd c_33 (by decide))) (by omega) hM hS (lv_sub hl [1, 2, 0] rfl)
          · refine lv_iload_n hx hb dX2_helperNamed_36 rfl (lv_at hl 2 rfl) ?_
            exact w_iret Vw hx hb hret hK hS hM (⟨by (have hq : (tk j).1 = tx := by (by_cases hq : (tk j).1 = tx; (exact hq); (rw [er30, if_neg hq] at c_33; exact absurd rfl c_33))); (rw [← hfh, show 8 - j = (8 - (j + 1)) + 1 by omega, fH_s, if_pos (by simp [hbt, hq])]; exact ex), eV⟩) hlocks dX2_helperNamed_37
  exact loop2 _ V _ _ _ 0 0 (rfl) (Nat.zero_le _) (rfl) (rfl) (Nat.lt_succ_self _) hM hS (lv_sub hl [1, 2, 0] rfl)
