set_option maxHeartbeats 4000000 in
set_option maxRecDepth 100000 in
theorem c_X2_begin (l : Launch) {E : En} {V : Vt} {t m0 : Nat} (ht : t < 8) (hm : m0 < 256) : CV l yX2_begin wsX2_begin 0 E V [.ref (E.1 + 2), .int (nI t), .int (nI m0)] (fun V' => V' 2 5 = nI t ∧ V' 2 6 = nI (clr m0 t) ∧ V' 2 7 = 0 ∧ V' 2 8 = -1 ∧ V' 2 9 = -1 ∧ V' 2 10 = nI 0 ∧ ∀ j, j ≠ 2 → V' j = V j) := by
  refine Met.ofW (cc := cX2_begin) (maxL := 3) (ret := none) (by decide) rfl ?_
  intro p e s m args below meth c s₁ B hml hv
  obtain ⟨rfl, hM, hK⟩ := hv
  have hx := B.exec
  have hb := B.bytes
  have hret := B.returns
  have hts := atoms_spec (ws := wsX2_begin) B.pre
  have hown : s.vm.findClass RX2 = some m.cls := findClass_of_methodNamed B.named
  have hlocks := B.notSynchronized
  have hsz : s.heap.size = E.1 + 610 := hM.1
  have hS : va_S (AE E) s.heap s.heap [] := va_S.rf
  have in2 : ∀ w ∈ u_ws RX2 TX2 11, w ∈ wsX2_begin := by decide +kernel
  have k54 := hts (.fieldLink RX2 54 "LimitTokens$Prover" "proved" "I") (by decide +kernel)
  have k57 := hts (.fieldLink RX2 57 "LimitTokens$Prover" "waiting" "I") (by decide +kernel)
  have k60 := hts (.fieldLink RX2 60 "LimitTokens$Prover" "found" "I") (by decide +kernel)
  have k40 := hts (.fieldLink RX2 40 "LimitTokens$Prover" "foundToken" "I") (by decide +kernel)
  have k44 := hts (.fieldLink RX2 44 "LimitTokens$Prover" "foundLimit" "I") (by decide +kernel)
  have k47 := hts (.fieldLink RX2 47 "LimitTokens$Prover" "begun" "I") (by decide +kernel)
  have hl := lv_entry ([.ref (E.1 + 2), .int (nI t), .int (nI m0)]) (n := 3) (Nat.le_of_ble_eq_true rfl)
  rw [lg_entry_eq]
  generalize (lg_sl ([.ref (E.1 + 2), .int (nI t), .int (nI m0)]) ++ List.replicate (3 - (lg_sl ([.ref (E.1 + 2), .int (nI t), .int (nI m0)])).length) Slot.unset).toArray = ls at hl ⊢
  have hl : lv_has ls 3 [(0, .ref (E.1 + 2)), (1, .int (nI t)), (2, .int (nI m0))] := hl
  refine lv_aload_n hx hb dX2_begin_0 rfl (lv_at hl 0 rfl) ?_
  refine lv_iload_n hx hb dX2_begin_1 rfl (lv_at hl 1 rfl) ?_
  refine w_pi 2 5 (T := TX2) (N := 11) hx hb hts in2 tyX2 tyX2_ok nmX2 hown hK.1 hM hS (by decide) (by decide) (by decide) (by decide) (by decide) rfl (by decide) k54 rfl rfl rfl rfl dX2_begin_2 (fun H locs hM hS => ?_)
  generalize hV2 : up2 V 2 5 (nI t) = V2 at hM
  refine lv_aload_n hx hb dX2_begin_5 rfl (lv_at hl 0 rfl) ?_
  refine lv_iload_n hx hb dX2_begin_6 rfl (lv_at hl 2 rfl) ?_
  refine lv_iconst (v := 1) hx hb dX2_begin_7 (by decide) ?_
  refine lv_iload_n hx hb dX2_begin_8 rfl (lv_at hl 1 rfl) ?_
  refine lv_ishl hx hb dX2_begin_9 ?_
  refine lv_iconst (v := (-1)) hx hb dX2_begin_10 (by decide) ?_
  refine lv_ixor hx hb dX2_begin_11 ?_
  refine lv_iand hx hb dX2_begin_12 ?_
  have q : ((nI m0) &&& ((1 <<< ((nI t) &&& 31)) ^^^ (-1)) : Int32) = nI (clr m0 t) := bit_clr m0 hm t ht
  refine lv_eqi q ?_
  refine w_pi 2 6 (T := TX2) (N := 11) hx hb hts in2 tyX2 tyX2_ok nmX2 hown hK.1 hM hS (by decide) (by decide) (by decide) (by decide) (by decide) rfl (by decide) k57 rfl rfl rfl rfl dX2_begin_13 (fun H locs hM hS => ?_)
  generalize hV13 : up2 V2 2 6 (nI (clr m0 t)) = V13 at hM
  refine lv_aload_n hx hb dX2_begin_16 rfl (lv_at hl 0 rfl) ?_
  refine lv_iconst (v := 0) hx hb dX2_begin_17 (by decide) ?_
  refine w_pi 2 7 (T := TX2) (N := 11) hx hb hts in2 tyX2 tyX2_ok nmX2 hown hK.1 hM hS (by decide) (by decide) (by decide) (by decide) (by decide) rfl (by decide) k60 rfl rfl rfl rfl dX2_begin_18 (fun H locs hM hS => ?_)
  generalize hV18 : up2 V13 2 7 0 = V18 at hM
  refine lv_aload_n hx hb dX2_begin_21 rfl (lv_at hl 0 rfl) ?_
  refine lv_iconst (v := (-1)) hx hb dX2_begin_22 (by decide) ?_
  refine w_pi 2 8 (T := TX2) (N := 11) hx hb hts in2 tyX2 tyX2_ok nmX2 hown hK.1 hM hS (by decide) (by decide) (by decide) (by decide) (by decide) rfl (by decide) k40 rfl rfl rfl rfl dX2_begin_23 (fun H locs hM hS => ?_)
  generalize hV23 : up2 V18 2 8 (-1) = V23 at hM
  refine lv_aload_n hx hb dX2_begin_26 rfl (lv_at hl 0 rfl) ?_
  refine lv_iconst (v := (-1)) hx hb dX2_begin_27 (by decide) ?_
  refine w_pi 2 9 (T := TX2) (N := 11) hx hb hts in2 tyX2 tyX2_ok nmX2 hown hK.1 hM hS (by decide) (by decide) (by decide) (by decide) (by decide) rfl (by decide) k44 rfl rfl rfl rfl dX2_begin_28 (fun H locs hM hS => ?_)
  generalize hV28 : up2 V23 2 9 (-1) = V28 at hM
  refine lv_aload_n hx hb dX2_begin_31 rfl (lv_at hl 0 rfl) ?_
  refine lv_iconst (v := 0) hx hb dX2_begin_32 (by decide) ?_
  refine w_pi 2 10 (T := TX2) (N := 11) hx hb hts in2 tyX2 tyX2_ok nmX2 hown hK.1 hM hS (by decide) (by decide) (by decide) (by decide) (by decide) rfl (by decide) k47 rfl rfl rfl rfl dX2_begin_33 (fun H locs hM hS => ?_)
  generalize hV33 : up2 V28 2 10 0 = V33 at hM
  exact w_vret (free := AE E) V33 hx hb hret hK hS hM (by subst hV2 hV13 hV18 hV23 hV28 hV33; exact ⟨(by simp [up2, va_up, upd]), (by simp [up2, va_up, upd]), (by simp [up2, va_up, upd]), (by simp [up2, va_up, upd]), (by simp [up2, va_up, upd]), (by simp [up2, va_up, upd]; rfl), fun j hj => (by rw [up2_k _ _ hj, up2_k _ _ hj, up2_k _ _ hj, up2_k _ _ hj, up2_k _ _ hj, up2_k _ _ hj])⟩) hlocks dX2_begin_36
