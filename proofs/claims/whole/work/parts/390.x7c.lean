set_option maxHeartbeats 4000000 in
set_option maxRecDepth 100000 in
theorem c_X7_limit (l : Launch) {E : En} {V : Vt} {σ : St} (hC : repC V σ) (t x : Int32) : CI l yX7_limit wsX7_limit 5 E V [.ref (E.1 + 0), .int t, .int x] (fun v V' => v = (opLimit σ t x).1 ∧ repC V' (opLimit σ t x).2 ∧ frM V V') := by
  refine Met.ofW (cc := cX7_limit) (maxL := 5) (ret := (some .int)) (by decide) rfl ?_
  intro p e s m args below meth c s₁ B hml hv
  obtain ⟨rfl, hM, hK⟩ := hv
  have hx := B.exec
  have hb := B.bytes
  have hret := B.returns
  have hts := atoms_spec (ws := wsX7_limit) B.pre
  have hown : s.vm.findClass RX7 = some m.cls := findClass_of_methodNamed B.named
  have hlocks := B.notSynchronized
  have hsz : s.heap.size = E.1 + 610 := hM.1
  have hS : va_S (AE E) s.heap s.heap [] := va_S.rf
  have in1 : ∀ w ∈ u_ws RX1 TX1 2, w ∈ wsX7_limit := by decide +kernel
  have in3 : ∀ w ∈ u_ws RX3 TX3 2, w ∈ wsX7_limit := by decide +kernel
  have in6 : ∀ w ∈ u_ws RX6 TX6 5, w ∈ wsX7_limit := by decide +kernel
  have in7 : ∀ w ∈ u_ws RX7 TX7 9, w ∈ wsX7_limit := by decide +kernel
  have k40 := hts (.fieldLink RX7 40 "LimitTokens" "tokens" "[LLimitTokens$Token;") (by decide +kernel)
  have k11 := hts (.fieldLink RX7 11 "LimitTokens" "registers" "[LLimitTokens$Row;") (by decide +kernel)
  have k79 := hts (.fieldLink RX7 79 "LimitTokens$Row" "length" "I") (by decide +kernel)
  have k130 := hts (.fieldLink RX7 130 "LimitTokens$Token" "limits" "[LLimitTokens$Limit;") (by decide +kernel)
  have k110 := hts (.fieldLink RX7 110 "LimitTokens$Token" "count" "I") (by decide +kernel)
  have k134 := hts (.fieldLink RX7 134 "LimitTokens$Limit" "text" "LLimitTokens$Row;") (by decide +kernel)
  have k139 := hts (.fieldLink RX7 139 "LimitTokens$Limit" "lock" "LLimitTokens$Row;") (by decide +kernel)
  have k45 := hts (.fieldLink RX7 45 "LimitTokens" "sealer" "LLimitTokens$Sealer;") (by decide +kernel)
  have k120 := hts (.fieldLink RX7 120 "LimitTokens$Token" "sign" "LLimitTokens$Row;") (by decide +kernel)
  have hl := lv_entry ([.ref (E.1 + 0), .int t, .int x]) (n := 5) (Nat.le_of_ble_eq_true rfl)
  rw [lg_entry_eq]
  generalize (lg_sl ([.ref (E.1 + 0), .int t, .int x]) ++ List.replicate (5 - (lg_sl ([.ref (E.1 + 0), .int t, .int x])).length) Slot.unset).toArray = ls at hl ⊢
  have hl : lv_has ls 5 [(0, .ref (E.1 + 0)), (1, .int t), (2, .int x)] := hl
  obtain ⟨⟨oR, oT, oP⟩, cR, cT, cP, cQ, cF, cL, cZ⟩ := id hC
  refine lv_aload_n hx hb dX7_limit_0 rfl (lv_at hl 0 rfl) ?_
  refine lv_iload_n hx hb dX7_limit_1 rfl (lv_at hl 1 rfl) ?_
  refine w_cVi (C := RX7) (As := [.int t]) (rest := []) ⟨hx, hb, hml, hown, hts⟩ (c_X7_isThere l cT t) (cwV 1 hts gX7_limit_X7_isThere rfl rfl rfl (by decide +kernel) ⟨Nat.le_of_ble_eq_true rfl, Nat.le_of_ble_eq_true rfl⟩) (w_recv (ci := 7) hK hM (by decide) (by decide) (by decide) rfl) hM hK hS rfl hl.1 rfl (lv_room (Nat.le_of_ble_eq_true rfl)) dX7_limit_2 ⟨Nat.le_of_ble_eq_true rfl, Nat.le_of_ble_eq_true rfl⟩ (fun r2 V2 H locs hp2 hM hS => ?_)
  obtain ⟨er2, eV⟩ := hp2
  rw [eV] at hM; clear eV
  refine lv_if_eq (tgt := 15) hx hb dX7_limit_5 (by decide) (fun c_5 => ?_) (fun c_5 => ?_)
  · have hN : thr σ t = none := by have q9 := b2i_eq0 (er2.symm.trans c_5); cases q8 : thr σ t with | none => rfl | some x => rw [q8] at q9; cases q9
    refine lv_bipush (v := (-2)) hx hb dX7_limit_15 (by decide) ?_
    have hpost : (fun v V' => v = (opLimit σ t x).1 ∧ repC V' (opLimit σ t x).2 ∧ frM V V') (-2) V := by
      have hq : opLimit σ t x = (-2, σ) := by first | simp [opLimit, hT, i2] | simp [opLimit, hN]
      rw [hq]; exact ⟨rfl, hC, fun _ _ => rfl⟩
    exact w_iret V hx hb hret hK hS hM (hpost) hlocks dX7_limit_17
  · obtain ⟨T, hT⟩ : ∃ T, thr σ t = some T := Option.isSome_iff_exists.mp (b2i_ne0 (by rw [← er2]; exact c_5))
    obtain ⟨i1, ht, et, hTt⟩ := thr_some hT
    obtain ⟨hth, htk⟩ := (cT (rj t) ht).s hTt
    have hok := oT (rj t) ht T hTt
    refine lv_iload_n hx hb dX7_limit_8 rfl (lv_at hl 2 rfl) ?_
    refine w_cSi (As := [.int x]) (rest := []) ⟨hx, hb, hml, hown, hts⟩ (c_X7_isRegister l x) (va_cwS 1 hts gX7_limit_X7_isRegister rfl rfl rfl (by decide +kernel) ⟨Nat.le_of_ble_eq_true rfl, Nat.le_of_ble_eq_true rfl⟩) hM hK hS rfl hl.1 rfl (lv_room (Nat.le_of_ble_eq_true rfl)) dX7_limit_9 ⟨Nat.le_of_ble_eq_true rfl, Nat.le_of_ble_eq_true rfl⟩ (fun r9 V9 H locs hp9 hM hS => ?_)
    obtain ⟨er9, eV⟩ := hp9
    rw [eV] at hM; clear eV
    refine lv_if_ne (tgt := 18) hx hb dX7_limit_12 (by decide) (fun c_12 => ?_) (fun c_12 => ?_)
    · have i2 : in8 x = true := b2i_ne0 (by rw [← er9]; exact c_12)
      have hx8 : rj x < 8 := (in8_r i2).1
      have rx := cR _ hx8
      have lx := oR _ hx8
      have hnl := hok.2.2.1
      refine lv_aload_n hx hb dX7_limit_18 rfl (lv_at hl 0 rfl) ?_
      refine w_gr 7 4 3 (T := TX7) (N := 9) hx hb hts in7 hown hK.1 hM (by decide) (by decide) (by decide) (by decide) (by decide) rfl (by decide) k40 rfl dX7_limit_19 ?_
      refine lv_iload_n hx hb dX7_limit_22 rfl (lv_at hl 1 rfl) ?_
      refine w_ald (N := 8) 4 hx hb hK.1 hM (by decide) (by first | rfl | (rw [(by decide)]; rfl)) (by first | decide | (rw [(by decide)]; decide)) (by decide) (vp8 i1) (25 + 60 * rj t) (sf3i i1) dX7_limit_23 ?_
      refine lv_astore_n (lv' := [(3, .ref (E.1 + (25 + 60 * rj t))), (0, .ref (E.1 + 0)), (1, .int t), (2, .int x)]) hx hb dX7_limit_24 rfl hl (by decide) rfl (fun ls hl => ?_)
      refine lv_aload_n hx hb dX7_limit_25 rfl (lv_at hl 1 rfl) ?_
      refine w_gr 7 0 1 (T := TX7) (N := 9) hx hb hts in7 hown hK.1 hM (by decide) (by decide) (by decide) (by decide) (by decide) rfl (by decide) k11 rfl dX7_limit_26 ?_
      refine lv_iload_n hx hb dX7_limit_29 rfl (lv_at hl 3 rfl) ?_
      refine w_ald (N := 8) 3 hx hb hK.1 hM (by decide) (by first | rfl | (rw [(by decide)]; rfl)) (by first | decide | (rw [(by decide)]; decide)) (by decide) (vp8 i2) (564 + 2 * rj x) (sf1i i2) dX7_limit_30 ?_
      refine w_gi 3 1 (T := TX3) (N := 2) hx hb hts in3 hown hK.1 hM ((rw_R _ (in8_r i2).1)).lt ((rw_R _ (in8_r i2).1)).k ((rw_R _ (in8_r i2).1)).n ((rw_R _ (in8_r i2).1)).f1 (by decide) rfl (by decide) k79 rfl dX7_limit_31 ?_
      have q : (V (564 + 2 * rj x) 1 : Int32) = nI (σ.1 (rj x)).length := (cR _ (in8_r i2).1).1
      refine lv_eqi q ?_
      refine w_cSi (As := [.int (nI (σ.1 (rj x)).length)]) (rest := []) ⟨hx, hb, hml, hown, hts⟩ (c_X7_isWordingLength l (nI (σ.1 (rj x)).length)) (va_cwS 1 hts gX7_limit_X7_isWordingLength rfl rfl rfl (by decide +kernel) ⟨Nat.le_of_ble_eq_true rfl, Nat.le_of_ble_eq_true rfl⟩) hM hK hS rfl hl.1 rfl (lv_room (Nat.le_of_ble_eq_true rfl)) dX7_limit_34 ⟨Nat.le_of_ble_eq_true rfl, Nat.le_of_ble_eq_true rfl⟩ (fun r34 V34 H locs hp34 hM hS => ?_)
      obtain ⟨er34, eV⟩ := hp34
      rw [eV] at hM; clear eV
      refine lv_if_eq (tgt := 47) hx hb dX7_limit_37 (by decide) (fun c_37 => ?_) (fun c_37 => ?_)
      · have i3 : okW1 (σ.1 (rj x)) = false := by rw [← wl_eq (by omega)]; exact b2i_eq0 (by rw [← er34]; exact c_37)
        refine lv_bipush (v := (-3)) hx hb dX7_limit_47 (by decide) ?_
        have hpost : (fun v V' => v = (opLimit σ t x).1 ∧ repC V' (opLimit σ t x).2 ∧ frM V V') (-3) V := by
          have hq : opLimit σ t x = (-3, σ) := by first | simp [opLimit, hT, i2, i3, i4] | simp [opLimit, hT, i2, i3]
          rw [hq]; exact ⟨rfl, hC, fun _ _ => rfl⟩
        exact w_iret V hx hb hret hK hS hM (hpost) hlocks dX7_limit_49
      · have i3 : okW1 (σ.1 (rj x)) = true := by rw [← wl_eq (by omega)]; exact b2i_ne0 (by rw [← er34]; exact c_37)
        refine lv_aload_n hx hb dX7_limit_40 rfl (lv_at hl 0 rfl) ?_
        refine w_cVi (C := RX6) (As := []) (rest := []) ⟨hx, hb, hml, hown, hts⟩ (c_X6_isFull l (tok_t ht)) (cwV 0 hts gX7_limit_X6_isFull rfl rfl rfl (by decide +kernel) ⟨Nat.le_of_ble_eq_true rfl, Nat.le_of_ble_eq_true rfl⟩) (w_recv (ci := 6) hK hM ((tok_t ht)).lt ((tok_t ht)).k (by decide) rfl) hM hK hS rfl hl.1 rfl (lv_room (Nat.le_of_ble_eq_true rfl)) dX7_limit_41 ⟨Nat.le_of_ble_eq_true rfl, Nat.le_of_ble_eq_true rfl⟩ (fun r41 V41 H locs hp41 hM hS => ?_)
        obtain ⟨er41, eV⟩ := hp41
        rw [eV] at hM; clear eV
        refine lv_if_eq (tgt := 50) hx hb dX7_limit_44 (by decide) (fun c_44 => ?_) (fun c_44 => ?_)
        · have i4 : T.2.2.length < 10 := by rw [er41, htk.2.2.1] at c_44; by_cases q : nI T.2.2.length < 10; (exact (nI_ltI (b := 10) (by omega) (by omega)).mp q); (rw [if_neg q] at c_44; exact absurd c_44 (by decide))
          have hn10 : T.2.2.length < 10 := i4
          refine lv_aload_n hx hb dX7_limit_50 rfl (lv_at hl 0 rfl) ?_
          refine w_gr 6 2 (25 + 60 * rj t + 5) (T := TX6) (N := 5) hx hb hts in6 hown hK.1 hM ((tok_t ht)).lt ((tok_t ht)).k ((tok_t ht)).n ((tok_t ht)).f2 (by decide) rfl (by decide) k130 rfl dX7_limit_51 ?_
          refine lv_aload_n hx hb dX7_limit_54 rfl (lv_at hl 0 rfl) ?_
          refine w_gi 6 3 (T := TX6) (N := 5) hx hb hts in6 hown hK.1 hM ((tok_t ht)).lt ((tok_t ht)).k ((tok_t ht)).n ((tok_t ht)).f3 (by decide) rfl (by decide) k110 rfl dX7_limit_55 ?_
          have q : (V (25 + 60 * rj t) 3 : Int32) = nI T.2.2.length := htk.2.2.1
          refine lv_eqi q ?_
          refine w_ald (N := 10) 2 hx hb hK.1 hM ((tok_t ht)).lt5 (by first | rfl | (rw [((tok_t ht)).k5]; rfl)) (by first | decide | (rw [((tok_t ht)).k5]; decide)) ((tok_t ht)).n5 (vp_in_nI hn10 (by omega)) (25 + 60 * rj t + 6 + 5 * T.2.2.length) (by rw [nI_clamp (by omega)]; exact (tok_t ht).fl hn10) dX7_limit_58 ?_
          refine lv_astore (lv' := [(4, .ref (E.1 + (25 + 60 * rj t + 6 + 5 * T.2.2.length))), (3, .ref (E.1 + (25 + 60 * rj t))), (0, .ref (E.1 + 0)), (1, .int t), (2, .int x)]) hx hb dX7_limit_59 hl (by decide) rfl (fun ls hl => ?_)
          refine lv_aload hx hb dX7_limit_61 (lv_at hl 0 rfl) ?_
          refine w_gr 1 0 (25 + 60 * rj t + 6 + 5 * T.2.2.length + 1) (T := TX1) (N := 2) hx hb hts in1 hown hK.1 hM (((tok_t ht).lim hn10)).lt (((tok_t ht).lim hn10)).k (((tok_t ht).lim hn10)).n (((tok_t ht).lim hn10)).f0 (by decide) rfl (by decide) k134 rfl dX7_limit_63 ?_
          refine lv_aload_n hx hb dX7_limit_66 rfl (lv_at hl 2 rfl) ?_
          refine w_gr 7 0 1 (T := TX7) (N := 9) hx hb hts in7 hown hK.1 hM (by decide) (by decide) (by decide) (by decide) (by decide) rfl (by decide) k11 rfl dX7_limit_67 ?_
          refine lv_iload_n hx hb dX7_limit_70 rfl (lv_at hl 4 rfl) ?_
          refine w_ald (N := 8) 3 hx hb hK.1 hM (by decide) (by first | rfl | (rw [(by decide)]; rfl)) (by first | decide | (rw [(by decide)]; decide)) (by decide) (vp8 i2) (564 + 2 * rj x) (sf1i i2) dX7_limit_71 ?_
          refine w_cVv (C := RX3) (As := [.ref (E.1 + (564 + 2 * rj x))]) (rest := []) ⟨hx, hb, hml, hown, hts⟩ (c_X3_takeOver l ((tok_t ht).lim hn10).text (rw_R _ hx8) rx lx.1 (by simp [okW1] at i3; omega)) (cwV 1 hts gX7_limit_X3_takeOver rfl rfl rfl (by decide +kernel) ⟨Nat.le_of_ble_eq_true rfl, Nat.le_of_ble_eq_true rfl⟩) (w_recv (ci := 3) hK hM ((((tok_t ht).lim hn10)).text).lt ((((tok_t ht).lim hn10)).text).k (by decide) rfl) hM hK hS rfl hl.1 rfl (lv_room (Nat.le_of_ble_eq_true rfl)) dX7_limit_72 ⟨Nat.le_of_ble_eq_true rfl, Nat.le_of_ble_eq_true rfl⟩ (fun V72 H locs hp72 hM hS => ?_)
          refine lv_aload hx hb dX7_limit_75 (lv_at hl 0 rfl) ?_
          refine w_gr 1 1 (25 + 60 * rj t + 6 + 5 * T.2.2.length + 3) (T := TX1) (N := 2) hx hb hts in1 hown hK.1 hM (((tok_t ht).lim hn10)).lt (((tok_t ht).lim hn10)).k (((tok_t ht).lim hn10)).n (((tok_t ht).lim hn10)).f1 (by decide) rfl (by decide) k139 rfl dX7_limit_77 ?_
          refine w_cVv (C := RX3) (As := []) (rest := []) ⟨hx, hb, hml, hown, hts⟩ (c_X3_makeEmpty l ((tok_t ht).lim hn10).lock) (cwV 0 hts gX7_limit_X3_makeEmpty rfl rfl rfl (by decide +kernel) ⟨Nat.le_of_ble_eq_true rfl, Nat.le_of_ble_eq_true rfl⟩) (w_recv (ci := 3) hK hM ((((tok_t ht).lim hn10)).lock).lt ((((tok_t ht).lim hn10)).lock).k (by decide) rfl) hM hK hS rfl hl.1 rfl (lv_room (Nat.le_of_ble_eq_true rfl)) dX7_limit_80 ⟨Nat.le_of_ble_eq_true rfl, Nat.le_of_ble_eq_true rfl⟩ (fun V80 H locs hp80 hM hS => ?_)
          refine lv_aload_n hx hb dX7_limit_83 rfl (lv_at hl 2 rfl) ?_
          refine w_gr 7 5 4 (T := TX7) (N := 9) hx hb hts in7 hown hK.1 hM (by decide) (by decide) (by decide) (by decide) (by decide) rfl (by decide) k45 rfl dX7_limit_84 ?_
          refine lv_aload_n hx hb dX7_limit_87 rfl (lv_at hl 1 rfl) ?_
          refine w_gr 6 1 (25 + 60 * rj t + 3) (T := TX6) (N := 5) hx hb hts in6 hown hK.1 hM ((tok_t ht)).lt ((tok_t ht)).k ((tok_t ht)).n ((tok_t ht)).f1 (by decide) rfl (by decide) k120 rfl dX7_limit_88 ?_
          refine lv_aload hx hb dX7_limit_91 (lv_at hl 0 rfl) ?_
          refine w_cVv (C := RX4) (As := [.ref (E.1 + (25 + 60 * rj t + 3)), .ref (E.1 + (25 + 60 * rj t + 6 + 5 * T.2.2.length))]) (rest := []) ⟨hx, hb, hml, hown, hts⟩ (c_X4_goOnOwn l (tok_t ht).sign (by decide) (by omega) ((tok_t ht).lim hn10) (by omega) (htk.2.1.keep (by rw [hp80.2 _ (by omega) (by omega)]; exact hp72.2 _ (by omega) (by omega)) (by rw [hp80.2 _ (by omega) (by omega)]; exact hp72.2 _ (by omega) (by omega))) (hp72.1.otherR hp80.2 (by omega) (by omega) (by omega)) (by rw [hok.2.1.1]; omega) (by simp [okW1] at i3; omega)) (cwV 2 hts gX7_limit_X4_goOnOwn rfl rfl rfl (by decide +kernel) ⟨Nat.le_of_ble_eq_true rfl, Nat.le_of_ble_eq_true rfl⟩) (w_recv (ci := 4) hK hM (by decide) (by decide) (by decide) rfl) hM hK hS rfl hl.1 rfl (lv_room (Nat.le_of_ble_eq_true rfl)) dX7_limit_93 ⟨Nat.le_of_ble_eq_true rfl, Nat.le_of_ble_eq_true rfl⟩ (fun V93 H locs hp93 hM hS => ?_)
          have o93 : ∀ j, (j < 5 ∨ 12 < j) → j ≠ 25 + 60 * rj t + 3 → j ≠ 25 + 60 * rj t + 4 → (j < 25 + 60 * rj t + 6 + 5 * T.2.2.length + 1 ∨ 25 + 60 * rj t + 6 + 5 * T.2.2.length + 4 < j) → V93 j = V j := fun j a b c d => by rw [hp93.2 j a (by omega) (by omega), hp80.2 j (by omega) (by omega)]; exact hp72.2 j (by omega) (by omega)
          refine lv_aload_n hx hb dX7_limit_96 rfl (lv_at hl 1 rfl) ?_
          refine lv_dup hx hb dX7_limit_97 rfl ?_
          refine w_gi 6 3 (T := TX6) (N := 5) hx hb hts in6 hown hK.1 hM ((tok_t ht)).lt ((tok_t ht)).k ((tok_t ht)).n ((tok_t ht)).f3 (by decide) rfl (by decide) k110 rfl dX7_limit_98 ?_
          have q : (V93 (25 + 60 * rj t) 3 : Int32) = nI T.2.2.length := by rw [o93 _ (by omega) (by omega) (by omega) (by omega)]; exact htk.2.2.1
          refine lv_eqi q ?_
          refine lv_iconst (v := 1) hx hb dX7_limit_101 (by decide) ?_
          refine lv_iadd hx hb dX7_limit_102 ?_
          refine w_pi 6 3 (T := TX6) (N := 5) hx hb hts in6 tyX6 tyX6_ok nmX6 hown hK.1 hM hS ((tok_t ht)).lt ((tok_t ht)).k ((tok_t ht)).n ((tok_t ht)).f3 (by decide) rfl (by decide) k110 rfl rfl rfl rfl dX7_limit_103 (fun H locs hM hS => ?_)
          generalize hV103 : up2 V93 (25 + 60 * rj t) 3 ((nI T.2.2.length) + 1) = V103 at hM
          have o103 : ∀ j, j ≠ 25 + 60 * rj t → V103 j = V93 j := fun j hj => by subst hV103; exact up2_k _ _ hj
          refine lv_aload_n hx hb dX7_limit_106 rfl (lv_at hl 1 rfl) ?_
          refine w_gi 6 3 (T := TX6) (N := 5) hx hb hts in6 hown hK.1 hM ((tok_t ht)).lt ((tok_t ht)).k ((tok_t ht)).n ((tok_t ht)).f3 (by decide) rfl (by decide) k110 rfl dX7_limit_107 ?_
          have q : (V103 (25 + 60 * rj t) 3 : Int32) = (nI T.2.2.length) + 1 := by rw [← hV103]; exact up2_s _ _ _ _
          refine lv_eqi q ?_
          have hpost : (fun v V' => v = (opLimit σ t x).1 ∧ repC V' (opLimit σ t x).2 ∧ frM V V') ((nI T.2.2.length) + 1) V103 := by
            have hq : opLimit σ t x = (nI (T.2.2.length + 1), sTok σ (rj t) (some (T.1, hmac T.2.1 (σ.1 (rj x)), T.2.2 ++ [(σ.1 (rj x), [])]))) := by simp [opLimit, hT, i2, i3, i4]
            simp [okW1] at i3
            have hlen : (T.2.2 ++ [((σ.1 (rj x), []) : Lm)]).length = T.2.2.length + 1 := by simp
            rw [hq]; refine ⟨nI_1 _, hC.tok ht (o := some (T.1, hmac T.2.1 (σ.1 (rj x)), T.2.2 ++ [(σ.1 (rj x), [])])) ⟨?_, ?_, ?_, ?_, fun i hi => ?_⟩ (fun T2 hT2 => ?_) (fun j a b => ?_), fun j hj => ?_⟩
            · rw [← hV103, up2_o _ _ (by decide), o93 _ (by omega) (by omega) (by omega) (by omega)]; exact hth
            · exact htk.1.keep (by rw [o103 _ (by omega), o93 _ (by omega) (by omega) (by omega) (by omega)]) (by rw [o103 _ (by omega), o93 _ (by omega) (by omega) (by omega) (by omega)])
            · exact hp93.1.keep (o103 _ (by omega)) (o103 _ (by omega))
            · show V103 _ 3 = nI (T.2.2 ++ [((σ.1 (rj x), []) : Lm)]).length; rw [hlen, ← hV103, up2_s]; exact nI_1 _
            · rcases Nat.lt_or_ge i T.2.2.length with q | q
              · show limIs V103 _ ((T.2.2 ++ [((σ.1 (rj x), []) : Lm)]).getD i lz); rw [gd_snoc_lt q]
                have hL := htk.2.2.2 i q
                exact ⟨hL.1.keep (by rw [o103 _ (by omega), o93 _ (by omega) (by omega) (by omega) (by omega)]) (by rw [o103 _ (by omega), o93 _ (by omega) (by omega) (by omega) (by omega)]), hL.2.keep (by rw [o103 _ (by omega), o93 _ (by omega) (by omega) (by omega) (by omega)]) (by rw [o103 _ (by omega), o93 _ (by omega) (by omega) (by omega) (by omega)])⟩
              · obtain rfl : i = T.2.2.length := by have : i < T.2.2.length + 1 := (by rw [← hlen]; exact hi); omega
                show limIs V103 _ ((T.2.2 ++ [((σ.1 (rj x), []) : Lm)]).getD T.2.2.length lz); rw [gd_snoc_eq]
                exact ⟨(hp72.1.otherR hp80.2 (by omega) (by omega) (by omega)).keep (by rw [o103 _ (by omega), hp93.2 _ (by omega) (by omega) (by omega)]) (by rw [o103 _ (by omega), hp93.2 _ (by omega) (by omega) (by omega)]), hp80.1.keep (by rw [o103 _ (by omega), hp93.2 _ (by omega) (by omega) (by omega)]) (by rw [o103 _ (by omega), hp93.2 _ (by omega) (by omega) (by omega)])⟩
            · cases hT2; refine ⟨hok.1, ⟨hmac_len _ _, hmac_ok _ _⟩, by rw [hlen]; omega, fun i hi => ?_⟩
              rcases Nat.lt_or_ge i T.2.2.length with q | q
              · show okLm ((T.2.2 ++ [((σ.1 (rj x), []) : Lm)]).getD i lz); rw [gd_snoc_lt q]; exact hok.2.2.2 i q
              · obtain rfl : i = T.2.2.length := by have : i < T.2.2.length + 1 := (by rw [← hlen]; exact hi); omega
                show okLm ((T.2.2 ++ [((σ.1 (rj x), []) : Lm)]).getD T.2.2.length lz); rw [gd_snoc_eq]; exact ⟨i3.1, i3.2, Or.inl rfl, lx.2, fun z hz => by cases hz⟩
            · rw [o103 j (by omega), o93 j (by omega) (by omega) (by omega) (by omega)]
            · rw [o103 j (by omega), o93 j (by omega) (by omega) (by omega) (by omega)]
          exact w_iret V103 hx hb hret hK hS hM (hpost) hlocks dX7_limit_110
        · have i4 : ¬ T.2.2.length < 10 := fun q => by rw [er41, htk.2.2.1, if_pos (show nI T.2.2.length < 10 from nI_lt (b := 10) q (by omega))] at c_44; exact c_44 rfl
          refine lv_bipush (v := (-3)) hx hb dX7_limit_47 (by decide) ?_
          have hpost : (fun v V' => v = (opLimit σ t x).1 ∧ repC V' (opLimit σ t x).2 ∧ frM V V') (-3) V := by
            have hq : opLimit σ t x = (-3, σ) := by first | simp [opLimit, hT, i2, i3, i4] | simp [opLimit, hT, i2, i3]
            rw [hq]; exact ⟨rfl, hC, fun _ _ => rfl⟩
          exact w_iret V hx hb hret hK hS hM (hpost) hlocks dX7_limit_49
    · have i2 : in8 x = false := b2i_eq0 (by rw [← er9]; exact c_12)
      refine lv_bipush (v := (-2)) hx hb dX7_limit_15 (by decide) ?_
      have hpost : (fun v V' => v = (opLimit σ t x).1 ∧ repC V' (opLimit σ t x).2 ∧ frM V V') (-2) V := by
        have hq : opLimit σ t x = (-2, σ) := by first | simp [opLimit, hT, i2] | simp [opLimit, hN]
        rw [hq]; exact ⟨rfl, hC, fun _ _ => rfl⟩
      exact w_iret V hx hb hret hK hS hM (hpost) hlocks dX7_limit_17

set_option maxHeartbeats 4000000 in
set_option maxRecDepth 100000 in
theorem c_X7_others (l : Launch) {E : En} {V : Vt} {σ : St} (hC : repC V σ) (t k x : Int32) : CI l yX7_others wsX7_others 5 E V [.ref (E.1 + 0), .int t, .int k, .int x] (fun v V' => v = (opOthers σ t k x).1 ∧ repC V' (opOthers σ t k x).2 ∧ frM V V') := by
  refine Met.ofW (cc := cX7_others) (maxL := 6) (ret := (some .int)) (by decide) rfl ?_
  intro p e s m args below meth c s₁ B hml hv
  obtain ⟨rfl, hM, hK⟩ := hv
  have hx := B.exec
  have hb := B.bytes
  have hret := B.returns
  have hts := atoms_spec (ws := wsX7_others) B.pre
  have hown : s.vm.findClass RX7 = some m.cls := findClass_of_methodNamed B.named
  have hlocks := B.notSynchronized
  have hsz : s.heap.size = E.1 + 610 := hM.1
  have hS : va_S (AE E) s.heap s.heap [] := va_S.rf
  have in1 : ∀ w ∈ u_ws RX1 TX1 2, w ∈ wsX7_others := by decide +kernel
  have in3 : ∀ w ∈ u_ws RX3 TX3 2, w ∈ wsX7_others := by decide +kernel
  have in6 : ∀ w ∈ u_ws RX6 TX6 5, w ∈ wsX7_others := by decide +kernel
  have in7 : ∀ w ∈ u_ws RX7 TX7 9, w ∈ wsX7_others := by decide +kernel
  have k40 := hts (.fieldLink RX7 40 "LimitTokens" "tokens" "[LLimitTokens$Token;") (by decide +kernel)
  have k11 := hts (.fieldLink RX7 11 "LimitTokens" "registers" "[LLimitTokens$Row;") (by decide +kernel)
  have k79 := hts (.fieldLink RX7 79 "LimitTokens$Row" "length" "I") (by decide +kernel)
  have k130 := hts (.fieldLink RX7 130 "LimitTokens$Token" "limits" "[LLimitTokens$Limit;") (by decide +kernel)
  have k110 := hts (.fieldLink RX7 110 "LimitTokens$Token" "count" "I") (by decide +kernel)
  have k134 := hts (.fieldLink RX7 134 "LimitTokens$Limit" "text" "LLimitTokens$Row;") (by decide +kernel)
  have k45 := hts (.fieldLink RX7 45 "LimitTokens" "sealer" "LLimitTokens$Sealer;") (by decide +kernel)
  have k139 := hts (.fieldLink RX7 139 "LimitTokens$Limit" "lock" "LLimitTokens$Row;") (by decide +kernel)
  have k120 := hts (.fieldLink RX7 120 "LimitTokens$Token" "sign" "LLimitTokens$Row;") (by decide +kernel)
  have hl := lv_entry ([.ref (E.1 + 0), .int t, .int k, .int x]) (n := 6) (Nat.le_of_ble_eq_true rfl)
  rw [lg_entry_eq]
  generalize (lg_sl ([.ref (E.1 + 0), .int t, .int k, .int x]) ++ List.replicate (6 - (lg_sl ([.ref (E.1 + 0), .int t, .int k, .int x])).length) Slot.unset).toArray = ls at hl ⊢
  have hl : lv_has ls 6 [(0, .ref (E.1 + 0)), (1, .int t), (2, .int k), (3, .int x)] := hl
  obtain ⟨⟨oR, oT, oP⟩, cR, cT, cP, cQ, cF, cL, cZ⟩ := id hC
  refine lv_aload_n hx hb dX7_others_0 rfl (lv_at hl 0 rfl) ?_
  refine lv_iload_n hx hb dX7_others_1 rfl (lv_at hl 1 rfl) ?_
  refine w_cVi (C := RX7) (As := [.int t]) (rest := []) ⟨hx, hb, hml, hown, hts⟩ (c_X7_isThere l cT t) (cwV 1 hts gX7_others_X7_isThere rfl rfl rfl (by decide +kernel) ⟨Nat.le_of_ble_eq_true rfl, Nat.le_of_ble_eq_true rfl⟩) (w_recv (ci := 7) hK hM (by decide) (by decide) (by decide) rfl) hM hK hS rfl hl.1 rfl (lv_room (Nat.le_of_ble_eq_true rfl)) dX7_others_2 ⟨Nat.le_of_ble_eq_true rfl, Nat.le_of_ble_eq_true rfl⟩ (fun r2 V2 H locs hp2 hM hS => ?_)
  obtain ⟨er2, eV⟩ := hp2
  rw [eV] at hM; clear eV
  refine lv_if_eq (tgt := 22) hx hb dX7_others_5 (by decide) (fun c_5 => ?_) (fun c_5 => ?_)
  · have hN : thr σ t = none := by have q9 := b2i_eq0 (er2.symm.trans c_5); cases q8 : thr σ t with | none => rfl | some x => rw [q8] at q9; cases q9
    refine lv_bipush (v := (-2)) hx hb dX7_others_22 (by decide) ?_
    have hpost : (fun v V' => v = (opOthers σ t k x).1 ∧ repC V' (opOthers σ t k x).2 ∧ frM V V') (-2) V := by
      have hq : opOthers σ t k x = (-2, σ) := by first | simp [opOthers, hT, i2, i5] | simp [opOthers, hT, i2] | simp [opOthers, hN]
      rw [hq]; exact ⟨rfl, hC, fun _ _ => rfl⟩
    exact w_iret V hx hb hret hK hS hM (hpost) hlocks dX7_others_24
  · obtain ⟨T, hT⟩ : ∃ T, thr σ t = some T := Option.isSome_iff_exists.mp (b2i_ne0 (by rw [← er2]; exact c_5))
    obtain ⟨i1, ht, et, hTt⟩ := thr_some hT
    obtain ⟨hth, htk⟩ := (cT (rj t) ht).s hTt
    have hok := oT (rj t) ht T hTt
    refine lv_iload_n hx hb dX7_others_8 rfl (lv_at hl 2 rfl) ?_
    refine w_cSi (As := [.int k]) (rest := []) ⟨hx, hb, hml, hown, hts⟩ (c_X7_isRegister l k) (va_cwS 1 hts gX7_others_X7_isRegister rfl rfl rfl (by decide +kernel) ⟨Nat.le_of_ble_eq_true rfl, Nat.le_of_ble_eq_true rfl⟩) hM hK hS rfl hl.1 rfl (lv_room (Nat.le_of_ble_eq_true rfl)) dX7_others_9 ⟨Nat.le_of_ble_eq_true rfl, Nat.le_of_ble_eq_true rfl⟩ (fun r9 V9 H locs hp9 hM hS => ?_)
    obtain ⟨er9, eV⟩ := hp9
    rw [eV] at hM; clear eV
    refine lv_if_eq (tgt := 22) hx hb dX7_others_12 (by decide) (fun c_12 => ?_) (fun c_12 => ?_)
    · have i2 : in8 k = false := b2i_eq0 (by rw [← er9]; exact c_12)
      refine lv_bipush (v := (-2)) hx hb dX7_others_22 (by decide) ?_
      have hpost : (fun v V' => v = (opOthers σ t k x).1 ∧ repC V' (opOthers σ t k x).2 ∧ frM V V') (-2) V := by
        have hq : opOthers σ t k x = (-2, σ) := by first | simp [opOthers, hT, i2, i5] | simp [opOthers, hT, i2] | simp [opOthers, hN]
        rw [hq]; exact ⟨rfl, hC, fun _ _ => rfl⟩
      exact w_iret V hx hb hret hK hS hM (hpost) hlocks dX7_others_24
    · have i2 : in8 k = true := b2i_ne0 (by rw [← er9]; exact c_12)
      refine lv_iload_n hx hb dX7_others_15 rfl (lv_at hl 3 rfl) ?_
      refine w_cSi (As := [.int x]) (rest := []) ⟨hx, hb, hml, hown, hts⟩ (c_X7_isRegister l x) (va_cwS 1 hts gX7_others_X7_isRegister rfl rfl rfl (by decide +kernel) ⟨Nat.le_of_ble_eq_true rfl, Nat.le_of_ble_eq_true rfl⟩) hM hK hS rfl hl.1 rfl (lv_room (Nat.le_of_ble_eq_true rfl)) dX7_others_16 ⟨Nat.le_of_ble_eq_true rfl, Nat.le_of_ble_eq_true rfl⟩ (fun r16 V16 H locs hp16 hM hS => ?_)
      obtain ⟨er16, eV⟩ := hp16
      rw [eV] at hM; clear eV
      refine lv_if_ne (tgt := 25) hx hb dX7_others_19 (by decide) (fun c_19 => ?_) (fun c_19 => ?_)
      · have i5 : in8 x = true := b2i_ne0 (by rw [← er16]; exact c_19)
        have hx8 : rj x < 8 := (in8_r i5).1
        have hk8 : rj k < 8 := (in8_r i2).1
        have rx := cR _ hx8
        have lx := oR _ hx8
        have rk := cR _ hk8
        have lk := oR _ hk8
        have hnl := hok.2.2.1
        refine lv_aload_n hx hb dX7_others_25 rfl (lv_at hl 0 rfl) ?_
        refine w_gr 7 4 3 (T := TX7) (N := 9) hx hb hts in7 hown hK.1 hM (by decide) (by decide) (by decide) (by decide) (by decide) rfl (by decide) k40 rfl dX7_others_26 ?_
        refine lv_iload_n hx hb dX7_others_29 rfl (lv_at hl 1 rfl) ?_
        refine w_ald (N := 8) 4 hx hb hK.1 hM (by decide) (by first | rfl | (rw [(by decide)]; rfl)) (by first | decide | (rw [(by decide)]; decide)) (by decide) (vp8 i1) (25 + 60 * rj t) (sf3i i1) dX7_others_30 ?_
        refine lv_astore (lv' := [(4, .ref (E.1 + (25 + 60 * rj t))), (0, .ref (E.1 + 0)), (1, .int t), (2, .int k), (3, .int x)]) hx hb dX7_others_31 hl (by decide) rfl (fun ls hl => ?_)
        refine lv_aload_n hx hb dX7_others_33 rfl (lv_at hl 1 rfl) ?_
        refine w_gr 7 0 1 (T := TX7) (N := 9) hx hb hts in7 hown hK.1 hM (by decide) (by decide) (by decide) (by decide) (by decide) rfl (by decide) k11 rfl dX7_others_34 ?_
        refine lv_iload_n hx hb dX7_others_37 rfl (lv_at hl 4 rfl) ?_
        refine w_ald (N := 8) 3 hx hb hK.1 hM (by decide) (by first | rfl | (rw [(by decide)]; rfl)) (by first | decide | (rw [(by decide)]; decide)) (by decide) (vp8 i5) (564 + 2 * rj x) (sf1i i5) dX7_others_38 ?_
        refine w_gi 3 1 (T := TX3) (N := 2) hx hb hts in3 hown hK.1 hM ((rw_R _ (in8_r i5).1)).lt ((rw_R _ (in8_r i5).1)).k ((rw_R _ (in8_r i5).1)).n ((rw_R _ (in8_r i5).1)).f1 (by decide) rfl (by decide) k79 rfl dX7_others_39 ?_
        have q : (V (564 + 2 * rj x) 1 : Int32) = nI (σ.1 (rj x)).length := (cR _ (in8_r i5).1).1
        refine lv_eqi q ?_
        refine w_cSi (As := [.int (nI (σ.1 (rj x)).length)]) (rest := []) ⟨hx, hb, hml, hown, hts⟩ (c_X7_isWordingLength l (nI (σ.1 (rj x)).length)) (va_cwS 1 hts gX7_others_X7_isWordingLength rfl rfl rfl (by decide +kernel) ⟨Nat.le_of_ble_eq_true rfl, Nat.le_of_ble_eq_true rfl⟩) hM hK hS rfl hl.1 rfl (lv_room (Nat.le_of_ble_eq_true rfl)) dX7_others_42 ⟨Nat.le_of_ble_eq_true rfl, Nat.le_of_ble_eq_true rfl⟩ (fun r42 V42 H locs hp42 hM hS => ?_)
        obtain ⟨er42, eV⟩ := hp42
        rw [eV] at hM; clear eV
        refine lv_if_eq (tgt := 70) hx hb dX7_others_45 (by decide) (fun c_45 => ?_) (fun c_45 => ?_)
        · have i3 : okW1 (σ.1 (rj x)) = false := by rw [← wl_eq (by omega)]; exact b2i_eq0 (by rw [← er42]; exact c_45)
          refine lv_bipush (v := (-3)) hx hb dX7_others_70 (by decide) ?_
          have hpost : (fun v V' => v = (opOthers σ t k x).1 ∧ repC V' (opOthers σ t k x).2 ∧ frM V V') (-3) V := by
            have hq : opOthers σ t k x = (-3, σ) := by first | simp [opOthers, hT, i2, i5, i3, i4, i6] | simp [opOthers, hT, i2, i5, i3, i4] | simp [opOthers, hT, i2, i5, i3]
            rw [hq]; exact ⟨rfl, hC, fun _ _ => rfl⟩
          exact w_iret V hx hb hret hK hS hM (hpost) hlocks dX7_others_72
        · have i3 : okW1 (σ.1 (rj x)) = true := by rw [← wl_eq (by omega)]; exact b2i_ne0 (by rw [← er42]; exact c_45)
          refine lv_aload hx hb dX7_others_48 (lv_at hl 0 rfl) ?_
          refine w_cVi (C := RX6) (As := []) (rest := []) ⟨hx, hb, hml, hown, hts⟩ (c_X6_isFull l (tok_t ht)) (cwV 0 hts gX7_others_X6_isFull rfl rfl rfl (by decide +kernel) ⟨Nat.le_of_ble_eq_true rfl, Nat.le_of_ble_eq_true rfl⟩) (w_recv (ci := 6) hK hM ((tok_t ht)).lt ((tok_t ht)).k (by decide) rfl) hM hK hS rfl hl.1 rfl (lv_room (Nat.le_of_ble_eq_true rfl)) dX7_others_50 ⟨Nat.le_of_ble_eq_true rfl, Nat.le_of_ble_eq_true rfl⟩ (fun r50 V50 H locs hp50 hM hS => ?_)
          obtain ⟨er50, eV⟩ := hp50
          rw [eV] at hM; clear eV
          refine lv_if_ne (tgt := 70) hx hb dX7_others_53 (by decide) (fun c_53 => ?_) (fun c_53 => ?_)
          · have i4 : ¬ T.2.2.length < 10 := fun q => by rw [er50, htk.2.2.1, if_pos (show nI T.2.2.length < 10 from nI_lt (b := 10) q (by omega))] at c_53; exact c_53 rfl
            refine lv_bipush (v := (-3)) hx hb dX7_others_70 (by decide) ?_
            have hpost : (fun v V' => v = (opOthers σ t k x).1 ∧ repC V' (opOthers σ t k x).2 ∧ frM V V') (-3) V := by
              have hq : opOthers σ t k x = (-3, σ) := by first | simp [opOthers, hT, i2, i5, i3, i4, i6] | simp [opOthers, hT, i2, i5, i3, i4] | simp [opOthers, hT, i2, i5, i3]
              rw [hq]; exact ⟨rfl, hC, fun _ _ => rfl⟩
            exact w_iret V hx hb hret hK hS hM (hpost) hlocks dX7_others_72
          · have i4 : T.2.2.length < 10 := by rw [er50, htk.2.2.1] at c_53; by_cases q : nI T.2.2.length < 10; (exact (nI_ltI (b := 10) (by omega) (by omega)).mp q); (rw [if_neg q] at c_53; exact absurd c_53 (by decide))
            have hn10 : T.2.2.length < 10 := i4
            refine lv_aload_n hx hb dX7_others_56 rfl (lv_at hl 1 rfl) ?_
            refine w_gr 7 0 1 (T := TX7) (N := 9) hx hb hts in7 hown hK.1 hM (by decide) (by decide) (by decide) (by decide) (by decide) rfl (by decide) k11 rfl dX7_others_57 ?_
            refine lv_iload_n hx hb dX7_others_60 rfl (lv_at hl 3 rfl) ?_
            refine w_ald (N := 8) 3 hx hb hK.1 hM (by decide) (by first | rfl | (rw [(by decide)]; rfl)) (by first | decide | (rw [(by decide)]; decide)) (by decide) (vp8 i2) (564 + 2 * rj k) (sf1i i2) dX7_others_61 ?_
            refine w_gi 3 1 (T := TX3) (N := 2) hx hb hts in3 hown hK.1 hM ((rw_R _ (in8_r i2).1)).lt ((rw_R _ (in8_r i2).1)).k ((rw_R _ (in8_r i2).1)).n ((rw_R _ (in8_r i2).1)).f1 (by decide) rfl (by decide) k79 rfl dX7_others_62 ?_
            have q : (V (564 + 2 * rj k) 1 : Int32) = nI (σ.1 (rj k)).length := (cR _ (in8_r i2).1).1
            refine lv_eqi q ?_
            refine lv_bipush (v := 32) hx hb dX7_others_65 (by decide) ?_
            refine lv_icmp_eq (tgt := 73) hx hb dX7_others_67 (by decide) (fun c_67 => ?_) (fun c_67 => ?_)
            · have i6 : (σ.1 (rj k)).length = 32 := (nI_eq (b := 32) (by omega) (by omega)).mp c_67
              refine lv_aload hx hb dX7_others_73 (lv_at hl 0 rfl) ?_
              refine w_gr 6 2 (25 + 60 * rj t + 5) (T := TX6) (N := 5) hx hb hts in6 hown hK.1 hM ((tok_t ht)).lt ((tok_t ht)).k ((tok_t ht)).n ((tok_t ht)).f2 (by decide) rfl (by decide) k130 rfl dX7_others_75 ?_
              refine lv_aload hx hb dX7_others_78 (lv_at hl 0 rfl) ?_
              refine w_gi 6 3 (T := TX6) (N := 5) hx hb hts in6 hown hK.1 hM ((tok_t ht)).lt ((tok_t ht)).k ((tok_t ht)).n ((tok_t ht)).f3 (by decide) rfl (by decide) k110 rfl dX7_others_80 ?_
              have q : (V (25 + 60 * rj t) 3 : Int32) = nI T.2.2.length := htk.2.2.1
              refine lv_eqi q ?_
              refine w_ald (N := 10) 2 hx hb hK.1 hM ((tok_t ht)).lt5 (by first | rfl | (rw [((tok_t ht)).k5]; rfl)) (by first | decide | (rw [((tok_t ht)).k5]; decide)) ((tok_t ht)).n5 (vp_in_nI hn10 (by omega)) (25 + 60 * rj t + 6 + 5 * T.2.2.length) (by rw [nI_clamp (by omega)]; exact (tok_t ht).fl hn10) dX7_others_83 ?_
              refine lv_astore (lv' := [(5, .ref (E.1 + (25 + 60 * rj t + 6 + 5 * T.2.2.length))), (4, .ref (E.1 + (25 + 60 * rj t))), (0, .ref (E.1 + 0)), (1, .int t), (2, .int k), (3, .int x)]) hx hb dX7_others_84 hl (by decide) rfl (fun ls hl => ?_)
              refine lv_aload hx hb dX7_others_86 (lv_at hl 0 rfl) ?_
              refine w_gr 1 0 (25 + 60 * rj t + 6 + 5 * T.2.2.length + 1) (T := TX1) (N := 2) hx hb hts in1 hown hK.1 hM (((tok_t ht).lim hn10)).lt (((tok_t ht).lim hn10)).k (((tok_t ht).lim hn10)).n (((tok_t ht).lim hn10)).f0 (by decide) rfl (by decide) k134 rfl dX7_others_88 ?_
              refine lv_aload_n hx hb dX7_others_91 rfl (lv_at hl 2 rfl) ?_
              refine w_gr 7 0 1 (T := TX7) (N := 9) hx hb hts in7 hown hK.1 hM (by decide) (by decide) (by decide) (by decide) (by decide) rfl (by decide) k11 rfl dX7_others_92 ?_
              refine lv_iload_n hx hb dX7_others_95 rfl (lv_at hl 5 rfl) ?_
              refine w_ald (N := 8) 3 hx hb hK.1 hM (by decide) (by first | rfl | (rw [(by decide)]; rfl)) (by first | decide | (rw [(by decide)]; decide)) (by decide) (vp8 i5) (564 + 2 * rj x) (sf1i i5) dX7_others_96 ?_
              refine w_cVv (C := RX3) (As := [.ref (E.1 + (564 + 2 * rj x))]) (rest := []) ⟨hx, hb, hml, hown, hts⟩ (c_X3_takeOver l ((tok_t ht).lim hn10).text (rw_R _ hx8) rx lx.1 (by simp [okW1] at i3; omega)) (cwV 1 hts gX7_others_X3_takeOver rfl rfl rfl (by decide +kernel) ⟨Nat.le_of_ble_eq_true rfl, Nat.le_of_ble_eq_true rfl⟩) (w_recv (ci := 3) hK hM ((((tok_t ht).lim hn10)).text).lt ((((tok_t ht).lim hn10)).text).k (by decide) rfl) hM hK hS rfl hl.1 rfl (lv_room (Nat.le_of_ble_eq_true rfl)) dX7_others_97 ⟨Nat.le_of_ble_eq_true rfl, Nat.le_of_ble_eq_true rfl⟩ (fun V97 H locs hp97 hM hS => ?_)
              refine lv_aload_n hx hb dX7_others_100 rfl (lv_at hl 2 rfl) ?_
              refine w_gr 7 5 4 (T := TX7) (N := 9) hx hb hts in7 hown hK.1 hM (by decide) (by decide) (by decide) (by decide) (by decide) rfl (by decide) k45 rfl dX7_others_101 ?_
              refine lv_aload hx hb dX7_others_104 (lv_at hl 0 rfl) ?_
              refine w_gr 1 1 (25 + 60 * rj t + 6 + 5 * T.2.2.length + 3) (T := TX1) (N := 2) hx hb hts in1 hown hK.1 hM (((tok_t ht).lim hn10)).lt (((tok_t ht).lim hn10)).k (((tok_t ht).lim hn10)).n (((tok_t ht).lim hn10)).f1 (by decide) rfl (by decide) k139 rfl dX7_others_106 ?_
              refine lv_aload_n hx hb dX7_others_109 rfl (lv_at hl 2 rfl) ?_
              refine w_gr 7 0 1 (T := TX7) (N := 9) hx hb hts in7 hown hK.1 hM (by decide) (by decide) (by decide) (by decide) (by decide) rfl (by decide) k11 rfl dX7_others_110 ?_
              refine lv_iload_n hx hb dX7_others_113 rfl (lv_at hl 4 rfl) ?_
              refine w_ald (N := 8) 3 hx hb hK.1 hM (by decide) (by first | rfl | (rw [(by decide)]; rfl)) (by first | decide | (rw [(by decide)]; decide)) (by decide) (vp8 i2) (564 + 2 * rj k) (sf1i i2) dX7_others_114 ?_
              refine lv_aload hx hb dX7_others_115 (lv_at hl 1 rfl) ?_
              refine w_gr 6 1 (25 + 60 * rj t + 3) (T := TX6) (N := 5) hx hb hts in6 hown hK.1 hM ((tok_t ht)).lt ((tok_t ht)).k ((tok_t ht)).n ((tok_t ht)).f1 (by decide) rfl (by decide) k120 rfl dX7_others_117 ?_
              refine lv_aload hx hb dX7_others_120 (lv_at hl 0 rfl) ?_
              refine w_gr 1 0 (25 + 60 * rj t + 6 + 5 * T.2.2.length + 1) (T := TX1) (N := 2) hx hb hts in1 hown hK.1 hM (((tok_t ht).lim hn10)).lt (((tok_t ht).lim hn10)).k (((tok_t ht).lim hn10)).n (((tok_t ht).lim hn10)).f0 (by decide) rfl (by decide) k134 rfl dX7_others_122 ?_
              refine w_cVv (C := RX4) (As := [.ref (E.1 + (25 + 60 * rj t + 6 + 5 * T.2.2.length + 3)), .ref (E.1 + (564 + 2 * rj k)), .ref (E.1 + (25 + 60 * rj t + 3)), .ref (E.1 + (25 + 60 * rj t + 6 + 5 * T.2.2.length + 1))]) (rest := []) ⟨hx, hb, hml, hown, hts⟩ (c_X4_turnKey l ((tok_t ht).lim hn10).lock (by decide) (by omega) (rw_R _ hk8) (by omega) (tok_t ht).sign (by omega) ((tok_t ht).lim hn10).text (by omega) (rk.otherR hp97.2 (by omega) (by omega) (by omega)) (htk.2.1.otherR hp97.2 (by omega) (by omega) (by omega)) hp97.1 i6 (by decide) (by rw [hok.2.1.1]; omega) (by decide) (by simp [okW1] at i3; omega) (by decide)) (cwV 4 hts gX7_others_X4_turnKey rfl rfl rfl (by decide +kernel) ⟨Nat.le_of_ble_eq_true rfl, Nat.le_of_ble_eq_true rfl⟩) (w_recv (ci := 4) hK hM (by decide) (by decide) (by decide) rfl) hM hK hS rfl hl.1 rfl (lv_room (Nat.le_of_ble_eq_true rfl)) dX7_others_125 ⟨Nat.le_of_ble_eq_true rfl, Nat.le_of_ble_eq_true rfl⟩ (fun V125 H locs hp125 hM hS => ?_)
              refine lv_aload_n hx hb dX7_others_128 rfl (lv_at hl 2 rfl) ?_
              refine w_gr 7 5 4 (T := TX7) (N := 9) hx hb hts in7 hown hK.1 hM (by decide) (by decide) (by decide) (by decide) (by decide) rfl (by decide) k45 rfl dX7_others_129 ?_
              refine lv_aload hx hb dX7_others_132 (lv_at hl 1 rfl) ?_
              refine w_gr 6 1 (25 + 60 * rj t + 3) (T := TX6) (N := 5) hx hb hts in6 hown hK.1 hM ((tok_t ht)).lt ((tok_t ht)).k ((tok_t ht)).n ((tok_t ht)).f1 (by decide) rfl (by decide) k120 rfl dX7_others_134 ?_
              refine lv_aload hx hb dX7_others_137 (lv_at hl 0 rfl) ?_
              refine w_cVv (C := RX4) (As := [.ref (E.1 + (25 + 60 * rj t + 3)), .ref (E.1 + (25 + 60 * rj t + 6 + 5 * T.2.2.length))]) (rest := []) ⟨hx, hb, hml, hown, hts⟩ (c_X4_goOnOthers l (tok_t ht).sign (by decide) (by omega) ((tok_t ht).lim hn10) (by omega) (by omega) ((htk.2.1.otherR hp97.2 (by omega) (by omega) (by omega)).other hp125.2 (by omega) (by omega) (by omega) (by omega)) (hp97.1.other hp125.2 (by omega) (by omega) (by omega) (by omega)) hp125.1 (by rw [hok.2.1.1]; omega) (by simp [okW1] at i3; omega) (by rw [xorL_len (by rw [i6, hmac_len]), i6]; omega)) (cwV 2 hts gX7_others_X4_goOnOthers rfl rfl rfl (by decide +kernel) ⟨Nat.le_of_ble_eq_true rfl, Nat.le_of_ble_eq_true rfl⟩) (w_recv (ci := 4) hK hM (by decide) (by decide) (by decide) rfl) hM hK hS rfl hl.1 rfl (lv_room (Nat.le_of_ble_eq_true rfl)) dX7_others_139 ⟨Nat.le_of_ble_eq_true rfl, Nat.le_of_ble_eq_true rfl⟩ (fun V139 H locs hp139 hM hS => ?_)
              have o139 : ∀ j, (j < 5 ∨ 18 < j) → j ≠ 25 + 60 * rj t + 3 → j ≠ 25 + 60 * rj t + 4 → (j < 25 + 60 * rj t + 6 + 5 * T.2.2.length + 1 ∨ 25 + 60 * rj t + 6 + 5 * T.2.2.length + 4 < j) → V139 j = V j := fun j a b c d => by rw [hp139.2 j a (by omega) (by omega), hp125.2 j a (by omega) (by omega)]; exact hp97.2 j (by omega) (by omega)
              refine lv_aload hx hb dX7_others_142 (lv_at hl 1 rfl) ?_
              refine lv_dup hx hb dX7_others_144 rfl ?_
              refine w_gi 6 3 (T := TX6) (N := 5) hx hb hts in6 hown hK.1 hM ((tok_t ht)).lt ((tok_t ht)).k ((tok_t ht)).n ((tok_t ht)).f3 (by decide) rfl (by decide) k110 rfl dX7_others_145 ?_
              have q : (V139 (25 + 60 * rj t) 3 : Int32) = nI T.2.2.length := by rw [o139 _ (by omega) (by omega) (by omega) (by omega)]; exact htk.2.2.1
              refine lv_eqi q ?_
              refine lv_iconst (v := 1) hx hb dX7_others_148 (by decide) ?_
              refine lv_iadd hx hb dX7_others_149 ?_
              refine w_pi 6 3 (T := TX6) (N := 5) hx hb hts in6 tyX6 tyX6_ok nmX6 hown hK.1 hM hS ((tok_t ht)).lt ((tok_t ht)).k ((tok_t ht)).n ((tok_t ht)).f3 (by decide) rfl (by decide) k110 rfl rfl rfl rfl dX7_others_150 (fun H locs hM hS => ?_)
              generalize hV150 : up2 V139 (25 + 60 * rj t) 3 ((nI T.2.2.length) + 1) = V150 at hM
              have o150 : ∀ j, j ≠ 25 + 60 * rj t → V150 j = V139 j := fun j hj => by subst hV150; exact up2_k _ _ hj
              refine lv_aload hx hb dX7_others_153 (lv_at hl 1 rfl) ?_
              refine w_gi 6 3 (T := TX6) (N := 5) hx hb hts in6 hown hK.1 hM ((tok_t ht)).lt ((tok_t ht)).k ((tok_t ht)).n ((tok_t ht)).f3 (by decide) rfl (by decide) k110 rfl dX7_others_155 ?_
              have q : (V150 (25 + 60 * rj t) 3 : Int32) = (nI T.2.2.length) + 1 := by rw [← hV150]; exact up2_s _ _ _ _
              refine lv_eqi q ?_
              have hpost : (fun v V' => v = (opOthers σ t k x).1 ∧ repC V' (opOthers σ t k x).2 ∧ frM V V') ((nI T.2.2.length) + 1) V150 := by
                have hq : opOthers σ t k x = (nI (T.2.2.length + 1), sTok σ (rj t) (some (T.1, hmac T.2.1 (hmac T.2.1 (xorL (σ.1 (rj k)) (hmac T.2.1 (σ.1 (rj x)))) ++ hmac T.2.1 (σ.1 (rj x))), T.2.2 ++ [(σ.1 (rj x), xorL (σ.1 (rj k)) (hmac T.2.1 (σ.1 (rj x))))]))) := by simp [opOthers, hT, i2, i5, i3, i4, i6]
                simp [okW1] at i3
                generalize hLN : ((σ.1 (rj x), xorL (σ.1 (rj k)) (hmac T.2.1 (σ.1 (rj x)))) : Lm) = LNW at hq
                have hlen : (T.2.2 ++ [LNW]).length = T.2.2.length + 1 := by simp
                rw [hq]; refine ⟨nI_1 _, hC.tok ht (o := some (T.1, hmac T.2.1 (hmac T.2.1 (xorL (σ.1 (rj k)) (hmac T.2.1 (σ.1 (rj x)))) ++ hmac T.2.1 (σ.1 (rj x))), T.2.2 ++ [LNW])) ⟨?_, ?_, ?_, ?_, fun i hi => ?_⟩ (fun T2 hT2 => ?_) (fun j a b => ?_), fun j hj => ?_⟩
                · rw [← hV150, up2_o _ _ (by decide), o139 _ (by omega) (by omega) (by omega) (by omega)]; exact hth
                · exact htk.1.keep (by rw [o150 _ (by omega), o139 _ (by omega) (by omega) (by omega) (by omega)]) (by rw [o150 _ (by omega), o139 _ (by omega) (by omega) (by omega) (by omega)])
                · exact hp139.1.keep (o150 _ (by omega)) (o150 _ (by omega))
                · show V150 _ 3 = nI (T.2.2 ++ [LNW]).length; rw [hlen, ← hV150, up2_s]; exact nI_1 _
                · rcases Nat.lt_or_ge i T.2.2.length with q | q
                  · show limIs V150 _ ((T.2.2 ++ [LNW]).getD i lz); rw [gd_snoc_lt q]
                    have hL := htk.2.2.2 i q
                    exact ⟨hL.1.keep (by rw [o150 _ (by omega), o139 _ (by omega) (by omega) (by omega) (by omega)]) (by rw [o150 _ (by omega), o139 _ (by omega) (by omega) (by omega) (by omega)]), hL.2.keep (by rw [o150 _ (by omega), o139 _ (by omega) (by omega) (by omega) (by omega)]) (by rw [o150 _ (by omega), o139 _ (by omega) (by omega) (by omega) (by omega)])⟩
                  · obtain rfl : i = T.2.2.length := by have : i < T.2.2.length + 1 := (by rw [← hlen]; exact hi); omega
                    show limIs V150 _ ((T.2.2 ++ [LNW]).getD T.2.2.length lz); rw [gd_snoc_eq, ← hLN]
                    exact ⟨(hp97.1.other hp125.2 (by omega) (by omega) (by omega) (by omega)).keep (by rw [o150 _ (by omega), hp139.2 _ (by omega) (by omega) (by omega)]) (by rw [o150 _ (by omega), hp139.2 _ (by omega) (by omega) (by omega)]), hp125.1.keep (by rw [o150 _ (by omega), hp139.2 _ (by omega) (by omega) (by omega)]) (by rw [o150 _ (by omega), hp139.2 _ (by omega) (by omega) (by omega)])⟩
                · cases hT2; refine ⟨hok.1, ⟨hmac_len _ _, hmac_ok _ _⟩, by rw [hlen]; omega, fun i hi => ?_⟩
                  rcases Nat.lt_or_ge i T.2.2.length with q | q
                  · show okLm ((T.2.2 ++ [LNW]).getD i lz); rw [gd_snoc_lt q]; exact hok.2.2.2 i q
                  · obtain rfl : i = T.2.2.length := by have : i < T.2.2.length + 1 := (by rw [← hlen]; exact hi); omega
                    show okLm ((T.2.2 ++ [LNW]).getD T.2.2.length lz); rw [gd_snoc_eq, ← hLN]; exact ⟨i3.1, i3.2, Or.inr (by rw [xorL_len (by rw [i6, hmac_len]), i6]), lx.2, xorL_ok lk.2 (hmac_ok _ _)⟩
                · rw [o150 j (by omega), o139 j (by omega) (by omega) (by omega) (by omega)]
                · rw [o150 j (by omega), o139 j (by omega) (by omega) (by omega) (by omega)]
              exact w_iret V150 hx hb hret hK hS hM (hpost) hlocks dX7_others_158
            · have i6 : ¬ (σ.1 (rj k)).length = 32 := fun q => c_67 (by rw [q]; rfl)
              refine lv_bipush (v := (-3)) hx hb dX7_others_70 (by decide) ?_
              have hpost : (fun v V' => v = (opOthers σ t k x).1 ∧ repC V' (opOthers σ t k x).2 ∧ frM V V') (-3) V := by
                have hq : opOthers σ t k x = (-3, σ) := by first | simp [opOthers, hT, i2, i5, i3, i4, i6] | simp [opOthers, hT, i2, i5, i3, i4] | simp [opOthers, hT, i2, i5, i3]
                rw [hq]; exact ⟨rfl, hC, fun _ _ => rfl⟩
              exact w_iret V hx hb hret hK hS hM (hpost) hlocks dX7_others_72
      · have i5 : in8 x = false := b2i_eq0 (by rw [← er16]; exact c_19)
        refine lv_bipush (v := (-2)) hx hb dX7_others_22 (by decide) ?_
        have hpost : (fun v V' => v = (opOthers σ t k x).1 ∧ repC V' (opOthers σ t k x).2 ∧ frM V V') (-2) V := by
          have hq : opOthers σ t k x = (-2, σ) := by first | simp [opOthers, hT, i2, i5] | simp [opOthers, hT, i2] | simp [opOthers, hN]
          rw [hq]; exact ⟨rfl, hC, fun _ _ => rfl⟩
        exact w_iret V hx hb hret hK hS hM (hpost) hlocks dX7_others_24

set_option maxHeartbeats 4000000 in
set_option maxRecDepth 100000 in
theorem c_X7_bind (l : Launch) {E : En} {V : Vt} {σ : St} (hC : repC V σ) (t u : Int32) : CI l yX7_bind wsX7_bind 5 E V [.ref (E.1 + 0), .int t, .int u] (fun v V' => v = (opBind σ t u).1 ∧ repC V' (opBind σ t u).2 ∧ frM V V') := by
  refine Met.ofW (cc := cX7_bind) (maxL := 3) (ret := (some .int)) (by decide) rfl ?_
  intro p e s m args below meth c s₁ B hml hv
  obtain ⟨rfl, hM, hK⟩ := hv
  have hx := B.exec
  have hb := B.bytes
  have hret := B.returns
  have hts := atoms_spec (ws := wsX7_bind) B.pre
  have hown : s.vm.findClass RX7 = some m.cls := findClass_of_methodNamed B.named
  have hlocks := B.notSynchronized
  have hsz : s.heap.size = E.1 + 610 := hM.1
  have hS : va_S (AE E) s.heap s.heap [] := va_S.rf
  have in6 : ∀ w ∈ u_ws RX6 TX6 5, w ∈ wsX7_bind := by decide +kernel
  have in7 : ∀ w ∈ u_ws RX7 TX7 9, w ∈ wsX7_bind := by decide +kernel
  have k45 := hts (.fieldLink RX7 45 "LimitTokens" "sealer" "LLimitTokens$Sealer;") (by decide +kernel)
  have k40 := hts (.fieldLink RX7 40 "LimitTokens" "tokens" "[LLimitTokens$Token;") (by decide +kernel)
  have k120 := hts (.fieldLink RX7 120 "LimitTokens$Token" "sign" "LLimitTokens$Row;") (by decide +kernel)
  have hl := lv_entry ([.ref (E.1 + 0), .int t, .int u]) (n := 3) (Nat.le_of_ble_eq_true rfl)
  rw [lg_entry_eq]
  generalize (lg_sl ([.ref (E.1 + 0), .int t, .int u]) ++ List.replicate (3 - (lg_sl ([.ref (E.1 + 0), .int t, .int u])).length) Slot.unset).toArray = ls at hl ⊢
  have hl : lv_has ls 3 [(0, .ref (E.1 + 0)), (1, .int t), (2, .int u)] := hl
  obtain ⟨⟨oR, oT, oP⟩, cR, cT, cP, cQ, cF, cL, cZ⟩ := id hC
  refine lv_aload_n hx hb dX7_bind_0 rfl (lv_at hl 0 rfl) ?_
  refine lv_iload_n hx hb dX7_bind_1 rfl (lv_at hl 1 rfl) ?_
  refine w_cVi (C := RX7) (As := [.int t]) (rest := []) ⟨hx, hb, hml, hown, hts⟩ (c_X7_isThere l cT t) (cwV 1 hts gX7_bind_X7_isThere rfl rfl rfl (by decide +kernel) ⟨Nat.le_of_ble_eq_true rfl, Nat.le_of_ble_eq_true rfl⟩) (w_recv (ci := 7) hK hM (by decide) (by decide) (by decide) rfl) hM hK hS rfl hl.1 rfl (lv_room (Nat.le_of_ble_eq_true rfl)) dX7_bind_2 ⟨Nat.le_of_ble_eq_true rfl, Nat.le_of_ble_eq_true rfl⟩ (fun r2 V2 H locs hp2 hM hS => ?_)
  obtain ⟨er2, eV⟩ := hp2
  rw [eV] at hM; clear eV
  refine lv_if_eq (tgt := 16) hx hb dX7_bind_5 (by decide) (fun c_5 => ?_) (fun c_5 => ?_)
  · have hN : thr σ t = none := by have q9 := b2i_eq0 (er2.symm.trans c_5); cases q8 : thr σ t with | none => rfl | some x => rw [q8] at q9; cases q9
    refine lv_bipush (v := (-2)) hx hb dX7_bind_16 (by decide) ?_
    have hpost : (fun v V' => v = (opBind σ t u).1 ∧ repC V' (opBind σ t u).2 ∧ frM V V') (-2) V := by
      have hq : opBind σ t u = (-2, σ) := by first | simp [opBind, hT, hNu] | simp [opBind, hN]
      rw [hq]; exact ⟨rfl, hC, fun _ _ => rfl⟩
    exact w_iret V hx hb hret hK hS hM (hpost) hlocks dX7_bind_18
  · obtain ⟨T, hT⟩ : ∃ T, thr σ t = some T := Option.isSome_iff_exists.mp (b2i_ne0 (by rw [← er2]; exact c_5))
    obtain ⟨i1, ht, et, hTt⟩ := thr_some hT
    obtain ⟨hth, htk⟩ := (cT (rj t) ht).s hTt
    have hok := oT (rj t) ht T hTt
    refine lv_aload_n hx hb dX7_bind_8 rfl (lv_at hl 0 rfl) ?_
    refine lv_iload_n hx hb dX7_bind_9 rfl (lv_at hl 2 rfl) ?_
    refine w_cVi (C := RX7) (As := [.int u]) (rest := []) ⟨hx, hb, hml, hown, hts⟩ (c_X7_isThere l cT u) (cwV 1 hts gX7_bind_X7_isThere rfl rfl rfl (by decide +kernel) ⟨Nat.le_of_ble_eq_true rfl, Nat.le_of_ble_eq_true rfl⟩) (w_recv (ci := 7) hK hM (by decide) (by decide) (by decide) rfl) hM hK hS rfl hl.1 rfl (lv_room (Nat.le_of_ble_eq_true rfl)) dX7_bind_10 ⟨Nat.le_of_ble_eq_true rfl, Nat.le_of_ble_eq_true rfl⟩ (fun r10 V10 H locs hp10 hM hS => ?_)
    obtain ⟨er10, eV⟩ := hp10
    rw [eV] at hM; clear eV
    refine lv_if_ne (tgt := 19) hx hb dX7_bind_13 (by decide) (fun c_13 => ?_) (fun c_13 => ?_)
    · obtain ⟨U, hU⟩ : ∃ T, thr σ u = some T := Option.isSome_iff_exists.mp (b2i_ne0 (by rw [← er10]; exact c_13))
      obtain ⟨i2, htu, etu, hTtu⟩ := thr_some hU
      obtain ⟨hthu, htku⟩ := (cT (rj u) htu).s hTtu
      have hoku := oT (rj u) htu U hTtu
      refine lv_aload_n hx hb dX7_bind_19 rfl (lv_at hl 0 rfl) ?_
      refine w_gr 7 5 4 (T := TX7) (N := 9) hx hb hts in7 hown hK.1 hM (by decide) (by decide) (by decide) (by decide) (by decide) rfl (by decide) k45 rfl dX7_bind_20 ?_
      refine lv_aload_n hx hb dX7_bind_23 rfl (lv_at hl 0 rfl) ?_
      refine w_gr 7 4 3 (T := TX7) (N := 9) hx hb hts in7 hown hK.1 hM (by decide) (by decide) (by decide) (by decide) (by decide) rfl (by decide) k40 rfl dX7_bind_24 ?_
      refine lv_iload_n hx hb dX7_bind_27 rfl (lv_at hl 1 rfl) ?_
      refine w_ald (N := 8) 4 hx hb hK.1 hM (by decide) (by first | rfl | (rw [(by decide)]; rfl)) (by first | decide | (rw [(by decide)]; decide)) (by decide) (vp8 i1) (25 + 60 * rj t) (sf3i i1) dX7_bind_28 ?_
      refine w_gr 6 1 (25 + 60 * rj t + 3) (T := TX6) (N := 5) hx hb hts in6 hown hK.1 hM ((tok_t ht)).lt ((tok_t ht)).k ((tok_t ht)).n ((tok_t ht)).f1 (by decide) rfl (by decide) k120 rfl dX7_bind_29 ?_
      refine lv_aload_n hx hb dX7_bind_32 rfl (lv_at hl 0 rfl) ?_
      refine w_gr 7 4 3 (T := TX7) (N := 9) hx hb hts in7 hown hK.1 hM (by decide) (by decide) (by decide) (by decide) (by decide) rfl (by decide) k40 rfl dX7_bind_33 ?_
      refine lv_iload_n hx hb dX7_bind_36 rfl (lv_at hl 2 rfl) ?_
      refine w_ald (N := 8) 4 hx hb hK.1 hM (by decide) (by first | rfl | (rw [(by decide)]; rfl)) (by first | decide | (rw [(by decide)]; decide)) (by decide) (vp8 i2) (25 + 60 * rj u) (sf3i i2) dX7_bind_37 ?_
      refine w_gr 6 1 (25 + 60 * rj u + 3) (T := TX6) (N := 5) hx hb hts in6 hown hK.1 hM ((tok_t htu)).lt ((tok_t htu)).k ((tok_t htu)).n ((tok_t htu)).f1 (by decide) rfl (by decide) k120 rfl dX7_bind_38 ?_
      refine w_cVv (C := RX4) (As := [.ref (E.1 + (25 + 60 * rj t + 3)), .ref (E.1 + (25 + 60 * rj u + 3))]) (rest := []) ⟨hx, hb, hml, hown, hts⟩ (c_X4_bindSign l (tok_t ht).sign (by decide) (by omega) (tok_t htu).sign (by omega) htk.2.1 htku.2.1 hok.2.1.1 hoku.2.1.1 (by decide) cZ) (cwV 2 hts gX7_bind_X4_bindSign rfl rfl rfl (by decide +kernel) ⟨Nat.le_of_ble_eq_true rfl, Nat.le_of_ble_eq_true rfl⟩) (w_recv (ci := 4) hK hM (by decide) (by decide) (by decide) rfl) hM hK hS rfl hl.1 rfl (lv_room (Nat.le_of_ble_eq_true rfl)) dX7_bind_41 ⟨Nat.le_of_ble_eq_true rfl, Nat.le_of_ble_eq_true rfl⟩ (fun V41 H locs hp41 hM hS => ?_)
      rw [show List.replicate 32 (0 : Int32) = zr from rfl] at hp41
      refine lv_iconst (v := 0) hx hb dX7_bind_44 (by decide) ?_
      have hpost : (fun v V' => v = (opBind σ t u).1 ∧ repC V' (opBind σ t u).2 ∧ frM V V') 0 V41 := by
        have hq : opBind σ t u = (0, sTok σ (rj t) (some (T.1, hmac zr (U.2.1 ++ T.2.1), T.2.2))) := by simp [opBind, hT, hU]
        have hnl := hok.2.2.1
        rw [hq]; refine ⟨rfl, hC.tok ht (o := some (T.1, hmac zr (U.2.1 ++ T.2.1), T.2.2)) ⟨?_, ?_, hp41.1, ?_, fun i hi => ?_⟩ (fun T2 hT2 => ?_) (fun j a b => ?_), fun j hj => ?_⟩
        · rw [hp41.2 _ (by omega) (by omega) (by omega)]; exact hth
        · exact htk.1.other hp41.2 (by omega) (by omega) (by omega) (by omega)
        · rw [hp41.2 _ (by omega) (by omega) (by omega)]; exact htk.2.2.1
        · have hi2 : i < T.2.2.length := hi
          have hL := htk.2.2.2 i hi
          exact ⟨hL.1.other hp41.2 (by omega) (by omega) (by omega) (by omega), hL.2.other hp41.2 (by omega) (by omega) (by omega) (by omega)⟩
        · cases hT2; exact ⟨hok.1, ⟨hmac_len _ _, hmac_ok _ _⟩, hok.2.2.1, hok.2.2.2⟩
        · exact hp41.2 j (by omega) (by omega) (by omega)
        · exact hp41.2 j (by omega) (by omega) (by omega)
      exact w_iret V41 hx hb hret hK hS hM (hpost) hlocks dX7_bind_45
    · have hNu : thr σ u = none := by have q9 := b2i_eq0 (er10.symm.trans c_13); cases q8 : thr σ u with | none => rfl | some x => rw [q8] at q9; cases q9
      refine lv_bipush (v := (-2)) hx hb dX7_bind_16 (by decide) ?_
      have hpost : (fun v V' => v = (opBind σ t u).1 ∧ repC V' (opBind σ t u).2 ∧ frM V V') (-2) V := by
        have hq : opBind σ t u = (-2, σ) := by first | simp [opBind, hT, hNu] | simp [opBind, hN]
        rw [hq]; exact ⟨rfl, hC, fun _ _ => rfl⟩
      exact w_iret V hx hb hret hK hS hM (hpost) hlocks dX7_bind_18
