set_option maxHeartbeats 4000000 in
set_option maxRecDepth 100000 in
theorem c_X2_stopAt (l : Launch) {E : En} {V : Vt} (f t i : Int32) : CI l yX2_stopAt wsX2_stopAt 0 E V [.ref (E.1 + 2), .int f, .int t, .int i] (fun r V' => r = 0 ∧ V' 2 7 = f ∧ V' 2 8 = t ∧ V' 2 9 = i ∧ (∀ a, a < 7 ∨ 9 < a → V' 2 a = V 2 a) ∧ ∀ j, j ≠ 2 → V' j = V j) := by
  refine Met.ofW (cc := cX2_stopAt) (maxL := 4) (ret := (some .boolean)) (by decide) rfl ?_
  intro p e s m args below meth c s₁ B hml hv
  obtain ⟨rfl, hM, hK⟩ := hv
  have hx := B.exec
  have hb := B.bytes
  have hret := B.returns
  have hts := atoms_spec (ws := wsX2_stopAt) B.pre
  have hown : s.vm.findClass RX2 = some m.cls := findClass_of_methodNamed B.named
  have hlocks := B.notSynchronized
  have hsz : s.heap.size = E.1 + 610 := hM.1
  have hS : va_S (AE E) s.heap s.heap [] := va_S.rf
  have in2 : ∀ w ∈ u_ws RX2 TX2 11, w ∈ wsX2_stopAt := by decide +kernel
  have k60 := hts (.fieldLink RX2 60 "LimitTokens$Prover" "found" "I") (by decide +kernel)
  have k40 := hts (.fieldLink RX2 40 "LimitTokens$Prover" "foundToken" "I") (by decide +kernel)
  have k44 := hts (.fieldLink RX2 44 "LimitTokens$Prover" "foundLimit" "I") (by decide +kernel)
  have hl := lv_entry ([.ref (E.1 + 2), .int f, .int t, .int i]) (n := 4) (Nat.le_of_ble_eq_true rfl)
  rw [lg_entry_eq]
  generalize (lg_sl ([.ref (E.1 + 2), .int f, .int t, .int i]) ++ List.replicate (4 - (lg_sl ([.ref (E.1 + 2), .int f, .int t, .int i])).length) Slot.unset).toArray = ls at hl ⊢
  have hl : lv_has ls 4 [(0, .ref (E.1 + 2)), (1, .int f), (2, .int t), (3, .int i)] := hl
  refine lv_aload_n hx hb dX2_stopAt_0 rfl (lv_at hl 0 rfl) ?_
  refine lv_iload_n hx hb dX2_stopAt_1 rfl (lv_at hl 1 rfl) ?_
  refine w_pi 2 7 (T := TX2) (N := 11) hx hb hts in2 tyX2 tyX2_ok nmX2 hown hK.1 hM hS (by decide) (by decide) (by decide) (by decide) (by decide) rfl (by decide) k60 rfl rfl rfl rfl dX2_stopAt_2 (fun H locs hM hS => ?_)
  generalize hV2 : up2 V 2 7 f = V2 at hM
  refine lv_aload_n hx hb dX2_stopAt_5 rfl (lv_at hl 0 rfl) ?_
  refine lv_iload_n hx hb dX2_stopAt_6 rfl (lv_at hl 2 rfl) ?_
  refine w_pi 2 8 (T := TX2) (N := 11) hx hb hts in2 tyX2 tyX2_ok nmX2 hown hK.1 hM hS (by decide) (by decide) (by decide) (by decide) (by decide) rfl (by decide) k40 rfl rfl rfl rfl dX2_stopAt_7 (fun H locs hM hS => ?_)
  generalize hV7 : up2 V2 2 8 t = V7 at hM
  refine lv_aload_n hx hb dX2_stopAt_10 rfl (lv_at hl 0 rfl) ?_
  refine lv_iload_n hx hb dX2_stopAt_11 rfl (lv_at hl 3 rfl) ?_
  refine w_pi 2 9 (T := TX2) (N := 11) hx hb hts in2 tyX2 tyX2_ok nmX2 hown hK.1 hM hS (by decide) (by decide) (by decide) (by decide) (by decide) rfl (by decide) k44 rfl rfl rfl rfl dX2_stopAt_12 (fun H locs hM hS => ?_)
  generalize hV12 : up2 V7 2 9 i = V12 at hM
  refine lv_iconst (v := 0) hx hb dX2_stopAt_15 (by decide) ?_
  exact w_zret V12 hx hb hret hK hS hM (by subst hV2 hV7 hV12; exact ⟨rfl, (by simp [up2, va_up, upd]), (by simp [up2, va_up, upd]), (by simp [up2, va_up, upd]), fun a ha => (by rw [up2_o _ _ (by omega), up2_o _ _ (by omega), up2_o _ _ (by omega)]), fun j hj => (by rw [up2_k _ _ hj, up2_k _ _ hj, up2_k _ _ hj])⟩) (rfl) hlocks dX2_stopAt_16
