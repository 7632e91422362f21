theorem len0 {l : List Int32} (h : l.length < 2 ^ 31) : (nI l.length ≤ 0 → l = []) ∧ (¬ nI l.length ≤ 0 → ¬ l = []) := by
  refine ⟨fun q => ?_, fun q e => q (by rw [e]; decide)⟩
  have := (nI_leI (a := l.length) (b := 0) h (by omega)).mp q
  exact List.length_eq_zero_iff.mp (by omega)
set_option maxHeartbeats 4000000 in
set_option maxRecDepth 100000 in
theorem c_X1_isOfOthers (l : Launch) {E : En} {V : Vt} {b : Nat} (hb1 : isLim b) {lo : List Int32} (hr : rowIs V (b + 3) lo) (hl0 : lo.length ≤ 32) : CI l yX1_isOfOthers wsX1_isOfOthers 0 E V [.ref (E.1 + b)] (fun r V' => r = (if lo = [] then 0 else 1) ∧ V' = V) := by
  refine Met.ofW (cc := cX1_isOfOthers) (maxL := 1) (ret := (some .boolean)) (by decide) rfl ?_
  intro p e s m args below meth c s₁ B hml hv
  obtain ⟨rfl, hM, hK⟩ := hv
  have hx := B.exec
  have hb := B.bytes
  have hret := B.returns
  have hts := atoms_spec (ws := wsX1_isOfOthers) B.pre
  have hown : s.vm.findClass RX1 = some m.cls := findClass_of_methodNamed B.named
  have hlocks := B.notSynchronized
  have hsz : s.heap.size = E.1 + 610 := hM.1
  have hS : va_S (AE E) s.heap s.heap [] := va_S.rf
  have in1 : ∀ w ∈ u_ws RX1 TX1 2, w ∈ wsX1_isOfOthers := by decide +kernel
  have in3 : ∀ w ∈ u_ws RX3 TX3 2, w ∈ wsX1_isOfOthers := by decide +kernel
  have k20 := hts (.fieldLink RX1 20 "LimitTokens$Limit" "lock" "LLimitTokens$Row;") (by decide +kernel)
  have k23 := hts (.fieldLink RX1 23 "LimitTokens$Row" "length" "I") (by decide +kernel)
  have hl := lv_entry ([.ref (E.1 + b)]) (n := 1) (Nat.le_of_ble_eq_true rfl)
  rw [lg_entry_eq]
  generalize (lg_sl ([.ref (E.1 + b)]) ++ List.replicate (1 - (lg_sl ([.ref (E.1 + b)])).length) Slot.unset).toArray = ls at hl ⊢
  have hl : lv_has ls 1 [(0, .ref (E.1 + b))] := hl
  refine lv_aload_n hx hb dX1_isOfOthers_0 rfl (lv_at hl 0 rfl) ?_
  refine w_gr 1 1 (b + 3) (T := TX1) (N := 2) hx hb hts in1 hown hK.1 hM (hb1).lt (hb1).k (hb1).n (hb1).f1 (by decide) rfl (by decide) k20 rfl dX1_isOfOthers_1 ?_
  refine w_gi 3 1 (T := TX3) (N := 2) hx hb hts in3 hown hK.1 hM ((hb1).lock).lt ((hb1).lock).k ((hb1).lock).n ((hb1).lock).f1 (by decide) rfl (by decide) k23 rfl dX1_isOfOthers_4 ?_
  have q : (V (b + 3) 1 : Int32) = nI lo.length := hr.1
  refine lv_eqi q ?_
  refine lv_if_le (tgt := 14) hx hb dX1_isOfOthers_7 (by decide) (fun c_7 => ?_) (fun c_7 => ?_)
  · refine lv_iconst (v := 0) hx hb dX1_isOfOthers_14 (by decide) ?_
    exact w_zret V hx hb hret hK hS hM (⟨by (have h0 := @len0 lo (by omega)); (first | (rw [if_pos (h0.1 c_7)]) | (rw [if_neg (h0.2 c_7)])), rfl⟩) (rfl) hlocks dX1_isOfOthers_15
  · refine lv_iconst (v := 1) hx hb dX1_isOfOthers_10 (by decide) ?_
    refine lv_goto (tgt := 15) hx hb dX1_isOfOthers_11 (by decide) ?_
    exact w_zret V hx hb hret hK hS hM (⟨by (have h0 := @len0 lo (by omega)); (first | (rw [if_pos (h0.1 c_7)]) | (rw [if_neg (h0.2 c_7)])), rfl⟩) (rfl) hlocks dX1_isOfOthers_15

set_option maxHeartbeats 4000000 in
set_option maxRecDepth 100000 in
theorem c_X1_takeOver (l : Launch) {E : En} {V : Vt} {b b2 : Nat} (hb1 : isLim b) (hb2 : isLim b2) (hd : b = b2 ∨ b + 4 < b2 ∨ b2 + 4 < b) {L : Lm} (hL : limIs V b2 L) (h1 : L.1.length ≤ 60) (h2 : L.2.length ≤ 32) : CV l yX1_takeOver wsX1_takeOver 3 E V [.ref (E.1 + b), .ref (E.1 + b2)] (fun V' => limIs V' b L ∧ frI V V' (b + 1) (b + 4)) := by
  refine Met.ofW (cc := cX1_takeOver) (maxL := 2) (ret := none) (by decide) rfl ?_
  intro p e s m args below meth c s₁ B hml hv
  obtain ⟨rfl, hM, hK⟩ := hv
  have hx := B.exec
  have hb := B.bytes
  have hret := B.returns
  have hts := atoms_spec (ws := wsX1_takeOver) B.pre
  have hown : s.vm.findClass RX1 = some m.cls := findClass_of_methodNamed B.named
  have hlocks := B.notSynchronized
  have hsz : s.heap.size = E.1 + 610 := hM.1
  have hS : va_S (AE E) s.heap s.heap [] := va_S.rf
  have in1 : ∀ w ∈ u_ws RX1 TX1 2, w ∈ wsX1_takeOver := by decide +kernel
  have k14 := hts (.fieldLink RX1 14 "LimitTokens$Limit" "text" "LLimitTokens$Row;") (by decide +kernel)
  have k20 := hts (.fieldLink RX1 20 "LimitTokens$Limit" "lock" "LLimitTokens$Row;") (by decide +kernel)
  have hl := lv_entry ([.ref (E.1 + b), .ref (E.1 + b2)]) (n := 2) (Nat.le_of_ble_eq_true rfl)
  rw [lg_entry_eq]
  generalize (lg_sl ([.ref (E.1 + b), .ref (E.1 + b2)]) ++ List.replicate (2 - (lg_sl ([.ref (E.1 + b), .ref (E.1 + b2)])).length) Slot.unset).toArray = ls at hl ⊢
  have hl : lv_has ls 2 [(0, .ref (E.1 + b)), (1, .ref (E.1 + b2))] := hl
  refine lv_aload_n hx hb dX1_takeOver_0 rfl (lv_at hl 0 rfl) ?_
  refine w_gr 1 0 (b + 1) (T := TX1) (N := 2) hx hb hts in1 hown hK.1 hM (hb1).lt (hb1).k (hb1).n (hb1).f0 (by decide) rfl (by decide) k14 rfl dX1_takeOver_1 ?_
  refine lv_aload_n hx hb dX1_takeOver_4 rfl (lv_at hl 1 rfl) ?_
  refine w_gr 1 0 (b2 + 1) (T := TX1) (N := 2) hx hb hts in1 hown hK.1 hM (hb2).lt (hb2).k (hb2).n (hb2).f0 (by decide) rfl (by decide) k14 rfl dX1_takeOver_5 ?_
  refine w_cVv (C := RX3) (As := [.ref (E.1 + (b2 + 1))]) (rest := []) ⟨hx, hb, hml, hown, hts⟩ (c_X3_takeOver l hb1.text hb2.text hL.1 h1 h1) (cwV 1 hts gX1_takeOver_X3_takeOver rfl rfl rfl (by decide +kernel) ⟨Nat.le_of_ble_eq_true rfl, Nat.le_of_ble_eq_true rfl⟩) (w_recv (ci := 3) hK hM ((hb1).text).lt ((hb1).text).k (by decide) rfl) hM hK hS rfl hl.1 rfl (lv_room (Nat.le_of_ble_eq_true rfl)) dX1_takeOver_8 ⟨Nat.le_of_ble_eq_true rfl, Nat.le_of_ble_eq_true rfl⟩ (fun V8 H locs hp8 hM hS => ?_)
  have a2 := hL.2.otherR hp8.2 (by omega) (by omega) (by omega)
  refine lv_aload_n hx hb dX1_takeOver_11 rfl (lv_at hl 0 rfl) ?_
  refine w_gr 1 1 (b + 3) (T := TX1) (N := 2) hx hb hts in1 hown hK.1 hM (hb1).lt (hb1).k (hb1).n (hb1).f1 (by decide) rfl (by decide) k20 rfl dX1_takeOver_12 ?_
  refine lv_aload_n hx hb dX1_takeOver_15 rfl (lv_at hl 1 rfl) ?_
  refine w_gr 1 1 (b2 + 3) (T := TX1) (N := 2) hx hb hts in1 hown hK.1 hM (hb2).lt (hb2).k (hb2).n (hb2).f1 (by decide) rfl (by decide) k20 rfl dX1_takeOver_16 ?_
  refine w_cVv (C := RX3) (As := [.ref (E.1 + (b2 + 3))]) (rest := []) ⟨hx, hb, hml, hown, hts⟩ (c_X3_takeOver l hb1.lock hb2.lock a2 h2 h2) (cwV 1 hts gX1_takeOver_X3_takeOver rfl rfl rfl (by decide +kernel) ⟨Nat.le_of_ble_eq_true rfl, Nat.le_of_ble_eq_true rfl⟩) (w_recv (ci := 3) hK hM ((hb1).lock).lt ((hb1).lock).k (by decide) rfl) hM hK hS rfl hl.1 rfl (lv_room (Nat.le_of_ble_eq_true rfl)) dX1_takeOver_19 ⟨Nat.le_of_ble_eq_true rfl, Nat.le_of_ble_eq_true rfl⟩ (fun V19 H locs hp19 hM hS => ?_)
  exact w_vret (free := AE E) V19 hx hb hret hK hS hM (⟨⟨hp8.1.otherR hp19.2 (by omega) (by omega) (by omega), hp19.1⟩, (hp8.2.toI (by omega)).trans (hp19.2.toI (by omega))⟩) hlocks dX1_takeOver_22

set_option maxHeartbeats 4000000 in
set_option maxRecDepth 100000 in
theorem c_X1_putOn (l : Launch) {E : En} {V : Vt} {b : Nat} (hb1 : isLim b) (hbd : b + 4 < 506 ∨ 507 < b) {L : Lm} (hL : limIs V b L) (hok : okLm L) {z : List Int32} (hz : rowIs V 506 z) (hzl : z.length + 97 ≤ 1200) : CV l yX1_putOn wsX1_putOn 3 E V [.ref (E.1 + b), .ref (E.1 + 506)] (fun V' => rowIs V' 506 (z ++ limB L) ∧ frR V V' 506) := by
  refine Met.ofW (cc := cX1_putOn) (maxL := 2) (ret := none) (by decide) rfl ?_
  intro p e s m args below meth c s₁ B hml hv
  obtain ⟨rfl, hM, hK⟩ := hv
  have hx := B.exec
  have hb := B.bytes
  have hret := B.returns
  have hts := atoms_spec (ws := wsX1_putOn) B.pre
  have hown : s.vm.findClass RX1 = some m.cls := findClass_of_methodNamed B.named
  have hlocks := B.notSynchronized
  have hsz : s.heap.size = E.1 + 610 := hM.1
  have hS : va_S (AE E) s.heap s.heap [] := va_S.rf
  have in1 : ∀ w ∈ u_ws RX1 TX1 2, w ∈ wsX1_putOn := by decide +kernel
  have in3 : ∀ w ∈ u_ws RX3 TX3 2, w ∈ wsX1_putOn := by decide +kernel
  have k14 := hts (.fieldLink RX1 14 "LimitTokens$Limit" "text" "LLimitTokens$Row;") (by decide +kernel)
  have k23 := hts (.fieldLink RX1 23 "LimitTokens$Row" "length" "I") (by decide +kernel)
  have k20 := hts (.fieldLink RX1 20 "LimitTokens$Limit" "lock" "LLimitTokens$Row;") (by decide +kernel)
  have hl := lv_entry ([.ref (E.1 + b), .ref (E.1 + 506)]) (n := 2) (Nat.le_of_ble_eq_true rfl)
  rw [lg_entry_eq]
  generalize (lg_sl ([.ref (E.1 + b), .ref (E.1 + 506)]) ++ List.replicate (2 - (lg_sl ([.ref (E.1 + b), .ref (E.1 + 506)])).length) Slot.unset).toArray = ls at hl ⊢
  have hl : lv_has ls 2 [(0, .ref (E.1 + b)), (1, .ref (E.1 + 506))] := hl
  obtain ⟨ok1, ok2, ok3, -, -⟩ := id hok
  have hlk : L.2.length ≤ 32 := by rcases ok3 with h | h; (rw [h]; simp); omega
  refine lv_aload_n hx hb dX1_putOn_0 rfl (lv_at hl 1 rfl) ?_
  refine lv_iconst (v := 2) hx hb dX1_putOn_1 (by decide) ?_
  refine w_cVv (C := RX3) (As := [.int 2]) (rest := []) ⟨hx, hb, hml, hown, hts⟩ (c_X3_push l rw506 hz (by omega) 2) (cwV 1 hts gX1_putOn_X3_push rfl rfl rfl (by decide +kernel) ⟨Nat.le_of_ble_eq_true rfl, Nat.le_of_ble_eq_true rfl⟩) (w_recv (ci := 3) hK hM (by decide) (by decide) (by decide) rfl) hM hK hS rfl hl.1 rfl (lv_room (Nat.le_of_ble_eq_true rfl)) dX1_putOn_2 ⟨Nat.le_of_ble_eq_true rfl, Nat.le_of_ble_eq_true rfl⟩ (fun V2 H locs hp2 hM hS => ?_)
  have t2 := hL.1.otherR hp2.2 (by omega) (by omega) (by omega)
  have k2_ := hL.2.otherR hp2.2 (by omega) (by omega) (by omega)
  refine lv_aload_n hx hb dX1_putOn_5 rfl (lv_at hl 1 rfl) ?_
  refine lv_aload_n hx hb dX1_putOn_6 rfl (lv_at hl 0 rfl) ?_
  refine w_gr 1 0 (b + 1) (T := TX1) (N := 2) hx hb hts in1 hown hK.1 hM (hb1).lt (hb1).k (hb1).n (hb1).f0 (by decide) rfl (by decide) k14 rfl dX1_putOn_7 ?_
  refine w_gi 3 1 (T := TX3) (N := 2) hx hb hts in3 hown hK.1 hM ((hb1).text).lt ((hb1).text).k ((hb1).text).n ((hb1).text).f1 (by decide) rfl (by decide) k23 rfl dX1_putOn_10 ?_
  have q : (V2 (b + 1) 1 : Int32) = nI L.1.length := t2.1
  refine lv_eqi q ?_
  refine w_cVv (C := RX3) (As := [.int (nI L.1.length)]) (rest := []) ⟨hx, hb, hml, hown, hts⟩ (c_X3_push l rw506 hp2.1 (by simp; omega) (nI L.1.length)) (cwV 1 hts gX1_putOn_X3_push rfl rfl rfl (by decide +kernel) ⟨Nat.le_of_ble_eq_true rfl, Nat.le_of_ble_eq_true rfl⟩) (w_recv (ci := 3) hK hM (by decide) (by decide) (by decide) rfl) hM hK hS rfl hl.1 rfl (lv_room (Nat.le_of_ble_eq_true rfl)) dX1_putOn_13 ⟨Nat.le_of_ble_eq_true rfl, Nat.le_of_ble_eq_true rfl⟩ (fun V13 H locs hp13 hM hS => ?_)
  have t13 := t2.otherR hp13.2 (by omega) (by omega) (by omega)
  have k13 := k2_.otherR hp13.2 (by omega) (by omega) (by omega)
  refine lv_aload_n hx hb dX1_putOn_16 rfl (lv_at hl 1 rfl) ?_
  refine lv_aload_n hx hb dX1_putOn_17 rfl (lv_at hl 0 rfl) ?_
  refine w_gr 1 0 (b + 1) (T := TX1) (N := 2) hx hb hts in1 hown hK.1 hM (hb1).lt (hb1).k (hb1).n (hb1).f0 (by decide) rfl (by decide) k14 rfl dX1_putOn_18 ?_
  refine w_cVv (C := RX3) (As := [.ref (E.1 + (b + 1))]) (rest := []) ⟨hx, hb, hml, hown, hts⟩ (c_X3_pushAll l rw506 hb1.text (by omega) hp13.1 t13 (by omega) (by simp; omega)) (cwV 1 hts gX1_putOn_X3_pushAll rfl rfl rfl (by decide +kernel) ⟨Nat.le_of_ble_eq_true rfl, Nat.le_of_ble_eq_true rfl⟩) (w_recv (ci := 3) hK hM (by decide) (by decide) (by decide) rfl) hM hK hS rfl hl.1 rfl (lv_room (Nat.le_of_ble_eq_true rfl)) dX1_putOn_21 ⟨Nat.le_of_ble_eq_true rfl, Nat.le_of_ble_eq_true rfl⟩ (fun V21 H locs hp21 hM hS => ?_)
  have k21 := k13.otherR hp21.2 (by omega) (by omega) (by omega)
  have f21 : frR V V21 506 := (hp2.2.trans hp13.2).trans hp21.2
  refine lv_aload_n hx hb dX1_putOn_24 rfl (lv_at hl 0 rfl) ?_
  refine w_cVi (C := RX1) (As := []) (rest := []) ⟨hx, hb, hml, hown, hts⟩ (c_X1_isOfOthers l hb1 k21 hlk) (cwV 0 hts gX1_putOn_X1_isOfOthers rfl rfl rfl (by decide +kernel) ⟨Nat.le_of_ble_eq_true rfl, Nat.le_of_ble_eq_true rfl⟩) (w_recv (ci := 1) hK hM (hb1).lt (hb1).k (by decide) rfl) hM hK hS rfl hl.1 rfl (lv_room (Nat.le_of_ble_eq_true rfl)) dX1_putOn_25 ⟨Nat.le_of_ble_eq_true rfl, Nat.le_of_ble_eq_true rfl⟩ (fun r25 V25 H locs hp25 hM hS => ?_)
  obtain ⟨er25, eV⟩ := hp25
  rw [eV] at hM; clear eV
  have join50 : ∀ (Vj : Vt) (H : Heap) (locs : List Loc) (ls : Array Slot) (mid : List Int32) (emid : mid = (if L.2 = [] then [] else [4, 32] ++ L.2)) (hq : rowIs Vj 506 ((((z ++ [2]) ++ [nI L.1.length]) ++ L.1) ++ mid)) (hql : mid.length ≤ 34) (hfj : frR V Vj 506), Wd E Vj H → va_S (AE E) s.heap H locs → lv_has ls 2 [(0, .ref (E.1 + b)), (1, .ref (E.1 + 506))] → W p l e (headSpec wsX1_putOn (rmD 3)).room s m ([.ref (E.1 + b), .ref (E.1 + 506)] : List Value).toArray below meth c H locs 0 0 (MQ below (QV E (fun V' => Wd E V') (fun V' => rowIs V' 506 (z ++ limB L) ∧ frR V V' 506)) ([.ref (E.1 + b), .ref (E.1 + 506)] : List Value).toArray s 0 0 (AE E)) (F0 m 50 ls []) := by
    intro Vj H locs ls mid emid hq hql hfj hM hS hl
    refine lv_aload_n hx hb dX1_putOn_50 rfl (lv_at hl 1 rfl) ?_
    refine lv_iconst (v := 0) hx hb dX1_putOn_51 (by decide) ?_
    refine w_cVv (C := RX3) (As := [.int 0]) (rest := []) ⟨hx, hb, hml, hown, hts⟩ (c_X3_push l rw506 hq (by (simp at hql ⊢; omega)) 0) (cwV 1 hts gX1_putOn_X3_push rfl rfl rfl (by decide +kernel) ⟨Nat.le_of_ble_eq_true rfl, Nat.le_of_ble_eq_true rfl⟩) (w_recv (ci := 3) hK hM (by decide) (by decide) (by decide) rfl) hM hK hS rfl hl.1 rfl (lv_room (Nat.le_of_ble_eq_true rfl)) dX1_putOn_52 ⟨Nat.le_of_ble_eq_true rfl, Nat.le_of_ble_eq_true rfl⟩ (fun V52 H locs hp52 hM hS => ?_)
    exact w_vret (free := AE E) V52 hx hb hret hK hS hM (⟨by have := hp52.1; unfold limB; rw [← emid]; simpa using this, hfj.trans hp52.2⟩) hlocks dX1_putOn_55
  refine lv_if_eq (tgt := 50) hx hb dX1_putOn_28 (by decide) (fun c_28 => ?_) (fun c_28 => ?_)
  · have hnl : L.2 = [] := by by_cases h : L.2 = []; (exact h); (rw [er25, if_neg h] at c_28; exact absurd c_28 (by decide))
    exact join50 V21 _ _ _ [] (by rw [if_pos hnl]) (by rw [List.append_nil]; exact hp21.1) (by simp) f21 hM hS (lv_sub hl [0, 1] rfl)
  · have hnl : ¬ L.2 = [] := fun h => c_28 (by rw [er25, if_pos h])
    refine lv_aload_n hx hb dX1_putOn_31 rfl (lv_at hl 1 rfl) ?_
    refine lv_iconst (v := 4) hx hb dX1_putOn_32 (by decide) ?_
    refine w_cVv (C := RX3) (As := [.int 4]) (rest := []) ⟨hx, hb, hml, hown, hts⟩ (c_X3_push l rw506 hp21.1 (by simp; omega) 4) (cwV 1 hts gX1_putOn_X3_push rfl rfl rfl (by decide +kernel) ⟨Nat.le_of_ble_eq_true rfl, Nat.le_of_ble_eq_true rfl⟩) (w_recv (ci := 3) hK hM (by decide) (by decide) (by decide) rfl) hM hK hS rfl hl.1 rfl (lv_room (Nat.le_of_ble_eq_true rfl)) dX1_putOn_33 ⟨Nat.le_of_ble_eq_true rfl, Nat.le_of_ble_eq_true rfl⟩ (fun V33 H locs hp33 hM hS => ?_)
    have k33 := k21.otherR hp33.2 (by omega) (by omega) (by omega)
    refine lv_aload_n hx hb dX1_putOn_36 rfl (lv_at hl 1 rfl) ?_
    refine lv_bipush (v := 32) hx hb dX1_putOn_37 (by decide) ?_
    refine w_cVv (C := RX3) (As := [.int 32]) (rest := []) ⟨hx, hb, hml, hown, hts⟩ (c_X3_push l rw506 hp33.1 (by simp; omega) 32) (cwV 1 hts gX1_putOn_X3_push rfl rfl rfl (by decide +kernel) ⟨Nat.le_of_ble_eq_true rfl, Nat.le_of_ble_eq_true rfl⟩) (w_recv (ci := 3) hK hM (by decide) (by decide) (by decide) rfl) hM hK hS rfl hl.1 rfl (lv_room (Nat.le_of_ble_eq_true rfl)) dX1_putOn_39 ⟨Nat.le_of_ble_eq_true rfl, Nat.le_of_ble_eq_true rfl⟩ (fun V39 H locs hp39 hM hS => ?_)
    have k39 := k33.otherR hp39.2 (by omega) (by omega) (by omega)
    refine lv_aload_n hx hb dX1_putOn_42 rfl (lv_at hl 1 rfl) ?_
    refine lv_aload_n hx hb dX1_putOn_43 rfl (lv_at hl 0 rfl) ?_
    refine w_gr 1 1 (b + 3) (T := TX1) (N := 2) hx hb hts in1 hown hK.1 hM (hb1).lt (hb1).k (hb1).n (hb1).f1 (by decide) rfl (by decide) k20 rfl dX1_putOn_44 ?_
    refine w_cVv (C := RX3) (As := [.ref (E.1 + (b + 3))]) (rest := []) ⟨hx, hb, hml, hown, hts⟩ (c_X3_pushAll l rw506 hb1.lock (by omega) hp39.1 k39 hlk (by simp; omega)) (cwV 1 hts gX1_putOn_X3_pushAll rfl rfl rfl (by decide +kernel) ⟨Nat.le_of_ble_eq_true rfl, Nat.le_of_ble_eq_true rfl⟩) (w_recv (ci := 3) hK hM (by decide) (by decide) (by decide) rfl) hM hK hS rfl hl.1 rfl (lv_room (Nat.le_of_ble_eq_true rfl)) dX1_putOn_47 ⟨Nat.le_of_ble_eq_true rfl, Nat.le_of_ble_eq_true rfl⟩ (fun V47 H locs hp47 hM hS => ?_)
    exact join50 V47 _ _ _ ([4, 32] ++ L.2) (by rw [if_neg hnl]) (by have := hp47.1; simpa using this) (by simp; omega) (((f21.trans hp33.2).trans hp39.2).trans hp47.2) hM hS (lv_sub hl [0, 1] rfl)

set_option maxHeartbeats 4000000 in
set_option maxRecDepth 100000 in
theorem c_X6_isFull (l : Launch) {E : En} {V : Vt} {b : Nat} (hb1 : isTok b) : CI l yX6_isFull wsX6_isFull 0 E V [.ref (E.1 + b)] (fun r V' => r = (if V b 3 < 10 then 0 else 1) ∧ V' = V) := by
  refine Met.ofW (cc := cX6_isFull) (maxL := 1) (ret := (some .boolean)) (by decide) rfl ?_
  intro p e s m args below meth c s₁ B hml hv
  obtain ⟨rfl, hM, hK⟩ := hv
  have hx := B.exec
  have hb := B.bytes
  have hret := B.returns
  have hts := atoms_spec (ws := wsX6_isFull) B.pre
  have hown : s.vm.findClass RX6 = some m.cls := findClass_of_methodNamed B.named
  have hlocks := B.notSynchronized
  have hsz : s.heap.size = E.1 + 610 := hM.1
  have hS : va_S (AE E) s.heap s.heap [] := va_S.rf
  have in6 : ∀ w ∈ u_ws RX6 TX6 5, w ∈ wsX6_isFull := by decide +kernel
  have k30 := hts (.fieldLink RX6 30 "LimitTokens$Token" "count" "I") (by decide +kernel)
  have hl := lv_entry ([.ref (E.1 + b)]) (n := 1) (Nat.le_of_ble_eq_true rfl)
  rw [lg_entry_eq]
  generalize (lg_sl ([.ref (E.1 + b)]) ++ List.replicate (1 - (lg_sl ([.ref (E.1 + b)])).length) Slot.unset).toArray = ls at hl ⊢
  have hl : lv_has ls 1 [(0, .ref (E.1 + b))] := hl
  refine lv_aload_n hx hb dX6_isFull_0 rfl (lv_at hl 0 rfl) ?_
  refine w_gi 6 3 (T := TX6) (N := 5) hx hb hts in6 hown hK.1 hM (hb1).lt (hb1).k (hb1).n (hb1).f3 (by decide) rfl (by decide) k30 rfl dX6_isFull_1 ?_
  refine lv_bipush (v := 10) hx hb dX6_isFull_4 (by decide) ?_
  refine lv_icmp_lt (tgt := 13) hx hb dX6_isFull_6 (by decide) (fun c_6 => ?_) (fun c_6 => ?_)
  · refine lv_iconst (v := 0) hx hb dX6_isFull_13 (by decide) ?_
    exact w_zret V hx hb hret hK hS hM (⟨by first | rw [if_pos c_6] | rw [if_neg c_6], rfl⟩) (rfl) hlocks dX6_isFull_14
  · refine lv_iconst (v := 1) hx hb dX6_isFull_9 (by decide) ?_
    refine lv_goto (tgt := 14) hx hb dX6_isFull_10 (by decide) ?_
    exact w_zret V hx hb hret hK hS hM (⟨by first | rw [if_pos c_6] | rw [if_neg c_6], rfl⟩) (rfl) hlocks dX6_isFull_14

set_option maxHeartbeats 4000000 in
set_option maxRecDepth 100000 in
theorem c_X6_limitTold (l : Launch) {E : En} {V : Vt} {b : Nat} (hb1 : isTok b) {T : Tk} (hT : tokIs V b T) (hok : okTk T) {j : Nat} (hj : j < 10) : CI l yX6_limitTold wsX6_limitTold 1 E V [.ref (E.1 + b), .int (nI j)] (fun r V' => r = (if j < T.2.2.length then nI ((T.2.2.getD j lz).1.length + (if (T.2.2.getD j lz).2 = [] then 0 else 100)) else 0) ∧ V' = V) := by
  refine Met.ofW (cc := cX6_limitTold) (maxL := 2) (ret := (some .int)) (by decide) rfl ?_
  intro p e s m args below meth c s₁ B hml hv
  obtain ⟨rfl, hM, hK⟩ := hv
  have hx := B.exec
  have hb := B.bytes
  have hret := B.returns
  have hts := atoms_spec (ws := wsX6_limitTold) B.pre
  have hown : s.vm.findClass RX6 = some m.cls := findClass_of_methodNamed B.named
  have hlocks := B.notSynchronized
  have hsz : s.heap.size = E.1 + 610 := hM.1
  have hS : va_S (AE E) s.heap s.heap [] := va_S.rf
  have in1 : ∀ w ∈ u_ws RX1 TX1 2, w ∈ wsX6_limitTold := by decide +kernel
  have in3 : ∀ w ∈ u_ws RX3 TX3 2, w ∈ wsX6_limitTold := by decide +kernel
  have in6 : ∀ w ∈ u_ws RX6 TX6 5, w ∈ wsX6_limitTold := by decide +kernel
  have k30 := hts (.fieldLink RX6 30 "LimitTokens$Token" "count" "I") (by decide +kernel)
  have k25 := hts (.fieldLink RX6 25 "LimitTokens$Token" "limits" "[LLimitTokens$Limit;") (by decide +kernel)
  have k34 := hts (.fieldLink RX6 34 "LimitTokens$Limit" "text" "LLimitTokens$Row;") (by decide +kernel)
  have k37 := hts (.fieldLink RX6 37 "LimitTokens$Row" "length" "I") (by decide +kernel)
  have hl := lv_entry ([.ref (E.1 + b), .int (nI j)]) (n := 2) (Nat.le_of_ble_eq_true rfl)
  rw [lg_entry_eq]
  generalize (lg_sl ([.ref (E.1 + b), .int (nI j)]) ++ List.replicate (2 - (lg_sl ([.ref (E.1 + b), .int (nI j)])).length) Slot.unset).toArray = ls at hl ⊢
  have hl : lv_has ls 2 [(0, .ref (E.1 + b)), (1, .int (nI j))] := hl
  have hn := hok.2.2.1
  refine lv_iload_n hx hb dX6_limitTold_0 rfl (lv_at hl 1 rfl) ?_
  refine lv_if_lt (tgt := 12) hx hb dX6_limitTold_1 (by decide) (fun c_1 => ?_) (fun c_1 => ?_)
  · exact absurd c_1 (nI_pos (by omega))
  · refine lv_iload_n hx hb dX6_limitTold_4 rfl (lv_at hl 1 rfl) ?_
    refine lv_aload_n hx hb dX6_limitTold_5 rfl (lv_at hl 0 rfl) ?_
    refine w_gi 6 3 (T := TX6) (N := 5) hx hb hts in6 hown hK.1 hM (hb1).lt (hb1).k (hb1).n (hb1).f3 (by decide) rfl (by decide) k30 rfl dX6_limitTold_6 ?_
    have q : (V b 3 : Int32) = nI T.2.2.length := hT.2.2.1
    refine lv_eqi q ?_
    refine lv_icmp_lt (tgt := 14) hx hb dX6_limitTold_9 (by decide) (fun c_9 => ?_) (fun c_9 => ?_)
    · have hlt : j < T.2.2.length := (nI_ltI (by omega) (by omega)).mp c_9
      have hoL := hok.2.2.2 j hlt
      refine lv_aload_n hx hb dX6_limitTold_14 rfl (lv_at hl 0 rfl) ?_
      refine w_gr 6 2 (b + 5) (T := TX6) (N := 5) hx hb hts in6 hown hK.1 hM (hb1).lt (hb1).k (hb1).n (hb1).f2 (by decide) rfl (by decide) k25 rfl dX6_limitTold_15 ?_
      refine lv_iload_n hx hb dX6_limitTold_18 rfl (lv_at hl 1 rfl) ?_
      refine w_ald (N := 10) 2 hx hb hK.1 hM (hb1).lt5 (by first | rfl | (rw [(hb1).k5]; rfl)) (by first | decide | (rw [(hb1).k5]; decide)) (hb1).n5 (vp_in_nI hj (by omega)) (b + 6 + 5 * j) (by rw [nI_clamp (by omega)]; exact hb1.fl hj) dX6_limitTold_19 ?_
      refine w_gr 1 0 (b + 6 + 5 * j + 1) (T := TX1) (N := 2) hx hb hts in1 hown hK.1 hM (hb1.lim hj).lt (hb1.lim hj).k (hb1.lim hj).n (hb1.lim hj).f0 (by decide) rfl (by decide) k34 rfl dX6_limitTold_20 ?_
      refine w_gi 3 1 (T := TX3) (N := 2) hx hb hts in3 hown hK.1 hM ((hb1.lim hj).text).lt ((hb1.lim hj).text).k ((hb1.lim hj).text).n ((hb1.lim hj).text).f1 (by decide) rfl (by decide) k37 rfl dX6_limitTold_23 ?_
      have q : (V (b + 6 + 5 * j + 1) 1 : Int32) = nI (T.2.2.getD j lz).1.length := (hT.2.2.2 j hlt).1.1
      refine lv_eqi q ?_
      refine lv_aload_n hx hb dX6_limitTold_26 rfl (lv_at hl 0 rfl) ?_
      refine w_gr 6 2 (b + 5) (T := TX6) (N := 5) hx hb hts in6 hown hK.1 hM (hb1).lt (hb1).k (hb1).n (hb1).f2 (by decide) rfl (by decide) k25 rfl dX6_limitTold_27 ?_
      refine lv_iload_n hx hb dX6_limitTold_30 rfl (lv_at hl 1 rfl) ?_
      refine w_ald (N := 10) 2 hx hb hK.1 hM (hb1).lt5 (by first | rfl | (rw [(hb1).k5]; rfl)) (by first | decide | (rw [(hb1).k5]; decide)) (hb1).n5 (vp_in_nI hj (by omega)) (b + 6 + 5 * j) (by rw [nI_clamp (by omega)]; exact hb1.fl hj) dX6_limitTold_31 ?_
      refine w_cVi (C := RX1) (As := []) (rest := [.int (nI (T.2.2.getD j lz).1.length)]) ⟨hx, hb, hml, hown, hts⟩ (c_X1_isOfOthers l (hb1.lim hj) (hT.2.2.2 j hlt).2 (by rcases hoL.2.2.1 with h | h; (rw [h]; simp); omega)) (cwV 0 hts gX6_limitTold_X1_isOfOthers rfl rfl rfl (by decide +kernel) ⟨Nat.le_of_ble_eq_true rfl, Nat.le_of_ble_eq_true rfl⟩) (w_recv (ci := 1) hK hM (hb1.lim hj).lt (hb1.lim hj).k (by decide) rfl) hM hK hS rfl hl.1 rfl (lv_room (Nat.le_of_ble_eq_true rfl)) dX6_limitTold_32 ⟨Nat.le_of_ble_eq_true rfl, Nat.le_of_ble_eq_true rfl⟩ (fun r32 V32 H locs hp32 hM hS => ?_)
      obtain ⟨er32, eV⟩ := hp32
      rw [eV] at hM; clear eV
      refine lv_if_eq (tgt := 43) hx hb dX6_limitTold_35 (by decide) (fun c_35 => ?_) (fun c_35 => ?_)
      · refine lv_iconst (v := 0) hx hb dX6_limitTold_43 (by decide) ?_
        refine lv_iadd hx hb dX6_limitTold_44 ?_
        exact w_iret V hx hb hret hK hS hM (⟨by (rw [if_pos hlt]); (by_cases hc : (T.2.2.getD j lz).2 = []); (rw [if_pos hc] at er32 ⊢; first | exact nI_add _ 0 | exact absurd er32 c_35); (rw [if_neg hc] at er32 ⊢; first | exact nI_add _ 100 | (rw [er32] at c_35; exact absurd c_35 (by decide))), rfl⟩) hlocks dX6_limitTold_45
      · refine lv_bipush (v := 100) hx hb dX6_limitTold_38 (by decide) ?_
        refine lv_goto (tgt := 44) hx hb dX6_limitTold_40 (by decide) ?_
        refine lv_iadd hx hb dX6_limitTold_44 ?_
        exact w_iret V hx hb hret hK hS hM (⟨by (rw [if_pos hlt]); (by_cases hc : (T.2.2.getD j lz).2 = []); (rw [if_pos hc] at er32 ⊢; first | exact nI_add _ 0 | exact absurd er32 c_35); (rw [if_neg hc] at er32 ⊢; first | exact nI_add _ 100 | (rw [er32] at c_35; exact absurd c_35 (by decide))), rfl⟩) hlocks dX6_limitTold_45
    · have hge : ¬ j < T.2.2.length := fun q => c_9 (nI_lt q (by omega))
      refine lv_iconst (v := 0) hx hb dX6_limitTold_12 (by decide) ?_
      exact w_iret V hx hb hret hK hS hM (⟨by rw [if_neg hge], rfl⟩) hlocks dX6_limitTold_13

set_option maxHeartbeats 4000000 in
set_option maxRecDepth 100000 in
theorem c_X6_takeOver (l : Launch) {E : En} {V : Vt} {b b2 : Nat} (hb1 : isTok b) (hb2 : isTok b2) (hd : b = b2 ∨ b + 55 < b2 ∨ b2 + 55 < b) {T : Tk} (hT : tokIs V b2 T) (hok : okTk T) (hth : V b2 4 = 1) : CV l yX6_takeOver wsX6_takeOver 4 E V [.ref (E.1 + b), .ref (E.1 + b2)] (fun V' => tokIs V' b T ∧ V' b 4 = 1 ∧ frI V V' b (b + 55)) := by
  refine Met.ofW (cc := cX6_takeOver) (maxL := 3) (ret := none) (by decide) rfl ?_
  intro p e s m args below meth c s₁ B hml hv
  obtain ⟨rfl, hM, hK⟩ := hv
  have hx := B.exec
  have hb := B.bytes
  have hret := B.returns
  have hts := atoms_spec (ws := wsX6_takeOver) B.pre
  have hown : s.vm.findClass RX6 = some m.cls := findClass_of_methodNamed B.named
  have hlocks := B.notSynchronized
  have hsz : s.heap.size = E.1 + 610 := hM.1
  have hS : va_S (AE E) s.heap s.heap [] := va_S.rf
  have in6 : ∀ w ∈ u_ws RX6 TX6 5, w ∈ wsX6_takeOver := by decide +kernel
  have k14 := hts (.fieldLink RX6 14 "LimitTokens$Token" "name" "LLimitTokens$Row;") (by decide +kernel)
  have k20 := hts (.fieldLink RX6 20 "LimitTokens$Token" "sign" "LLimitTokens$Row;") (by decide +kernel)
  have k30 := hts (.fieldLink RX6 30 "LimitTokens$Token" "count" "I") (by decide +kernel)
  have k51 := hts (.fieldLink RX6 51 "LimitTokens$Token" "there" "Z") (by decide +kernel)
  have k25 := hts (.fieldLink RX6 25 "LimitTokens$Token" "limits" "[LLimitTokens$Limit;") (by decide +kernel)
  have hl := lv_entry ([.ref (E.1 + b), .ref (E.1 + b2)]) (n := 3) (Nat.le_of_ble_eq_true rfl)
  rw [lg_entry_eq]
  generalize (lg_sl ([.ref (E.1 + b), .ref (E.1 + b2)]) ++ List.replicate (3 - (lg_sl ([.ref (E.1 + b), .ref (E.1 + b2)])).length) Slot.unset).toArray = ls at hl ⊢
  have hl : lv_has ls 3 [(0, .ref (E.1 + b)), (1, .ref (E.1 + b2))] := hl
  have hn := hok.2.2.1
  refine lv_aload_n hx hb dX6_takeOver_0 rfl (lv_at hl 0 rfl) ?_
  refine w_gr 6 0 (b + 1) (T := TX6) (N := 5) hx hb hts in6 hown hK.1 hM (hb1).lt (hb1).k (hb1).n (hb1).f0 (by decide) rfl (by decide) k14 rfl dX6_takeOver_1 ?_
  refine lv_aload_n hx hb dX6_takeOver_4 rfl (lv_at hl 1 rfl) ?_
  refine w_gr 6 0 (b2 + 1) (T := TX6) (N := 5) hx hb hts in6 hown hK.1 hM (hb2).lt (hb2).k (hb2).n (hb2).f0 (by decide) rfl (by decide) k14 rfl dX6_takeOver_5 ?_
  refine w_cVv (C := RX3) (As := [.ref (E.1 + (b2 + 1))]) (rest := []) ⟨hx, hb, hml, hown, hts⟩ (c_X3_takeOver l hb1.name hb2.name hT.1 hok.1.2.1 hok.1.2.1) (cwV 1 hts gX6_takeOver_X3_takeOver rfl rfl rfl (by decide +kernel) ⟨Nat.le_of_ble_eq_true rfl, Nat.le_of_ble_eq_true rfl⟩) (w_recv (ci := 3) hK hM ((hb1).name).lt ((hb1).name).k (by decide) rfl) hM hK hS rfl hl.1 rfl (lv_room (Nat.le_of_ble_eq_true rfl)) dX6_takeOver_8 ⟨Nat.le_of_ble_eq_true rfl, Nat.le_of_ble_eq_true rfl⟩ (fun V8 H locs hp8 hM hS => ?_)
  have s8 := hT.2.1.otherR hp8.2 (by omega) (by omega) (by omega)
  refine lv_aload_n hx hb dX6_takeOver_11 rfl (lv_at hl 0 rfl) ?_
  refine w_gr 6 1 (b + 3) (T := TX6) (N := 5) hx hb hts in6 hown hK.1 hM (hb1).lt (hb1).k (hb1).n (hb1).f1 (by decide) rfl (by decide) k20 rfl dX6_takeOver_12 ?_
  refine lv_aload_n hx hb dX6_takeOver_15 rfl (lv_at hl 1 rfl) ?_
  refine w_gr 6 1 (b2 + 3) (T := TX6) (N := 5) hx hb hts in6 hown hK.1 hM (hb2).lt (hb2).k (hb2).n (hb2).f1 (by decide) rfl (by decide) k20 rfl dX6_takeOver_16 ?_
  refine w_cVv (C := RX3) (As := [.ref (E.1 + (b2 + 3))]) (rest := []) ⟨hx, hb, hml, hown, hts⟩ (c_X3_takeOver l hb1.sign hb2.sign s8 (by rw [hok.2.1.1]; omega) (by rw [hok.2.1.1]; omega)) (cwV 1 hts gX6_takeOver_X3_takeOver rfl rfl rfl (by decide +kernel) ⟨Nat.le_of_ble_eq_true rfl, Nat.le_of_ble_eq_true rfl⟩) (w_recv (ci := 3) hK hM ((hb1).sign).lt ((hb1).sign).k (by decide) rfl) hM hK hS rfl hl.1 rfl (lv_room (Nat.le_of_ble_eq_true rfl)) dX6_takeOver_19 ⟨Nat.le_of_ble_eq_true rfl, Nat.le_of_ble_eq_true rfl⟩ (fun V19 H locs hp19 hM hS => ?_)
  have f19 : frI V V19 (b + 1) (b + 55) := (hp8.2.toI (by omega)).trans (hp19.2.toI (by omega))
  have n19 := hp8.1.otherR hp19.2 (by omega) (by omega) (by omega)
  have l19 : ∀ i, i < T.2.2.length → limIs V19 (b2 + 6 + 5 * i) (T.2.2.getD i lz) := fun i hi => (hT.2.2.2 i hi).otherI ((hp8.2.toI (lo := b + 1) (hi := b + 4) (by omega)).trans (hp19.2.toI (by omega))) (by omega)
  refine lv_iconst (v := 0) hx hb dX6_takeOver_22 (by decide) ?_
  refine lv_istore_n (lv' := [(2, .int 0), (0, .ref (E.1 + b)), (1, .ref (E.1 + b2))]) hx hb dX6_takeOver_23 rfl hl (by decide) rfl (fun ls hl => ?_)
  have loop24 : ∀ (fu : Nat) (Vw : Vt) (H : Heap) (locs : List Loc) (ls : Array Slot) (j : Nat) (x : Int32) (ex : x = nI j) (hj : j ≤ T.2.2.length) (hsrc : ∀ i, i < T.2.2.length → limIs Vw (b2 + 6 + 5 * i) (T.2.2.getD i lz)) (hdst : ∀ i, i < j → limIs Vw (b + 6 + 5 * i) (T.2.2.getD i lz)) (hnm : rowIs Vw (b + 1) T.1) (hsg : rowIs Vw (b + 3) T.2.1) (hf : frI V Vw (b + 1) (b + 55)), T.2.2.length - j < fu → Wd E Vw H → va_S (AE E) s.heap H locs → lv_has ls 3 [(0, .ref (E.1 + b)), (1, .ref (E.1 + b2)), (2, .int x)] → W p l e (headSpec wsX6_takeOver (rmD 4)).room s m ([.ref (E.1 + b), .ref (E.1 + b2)] : List Value).toArray below meth c H locs 0 0 (MQ below (QV E (fun V' => Wd E V') (fun V' => tokIs V' b T ∧ V' b 4 = 1 ∧ frI V V' b (b + 55))) ([.ref (E.1 + b), .ref (E.1 + b2)] : List Value).toArray s 0 0 (AE E)) (F0 m 24 ls []) := by
    intro fu
    induction fu with
    | zero => intros; omega
    | succ fu ih =>
      intro Vw H locs ls j x ex hj hsrc hdst hnm hsg hf hfu hM hS hl
      refine lv_iload_n hx hb dX6_takeOver_24 rfl (lv_at hl 2 rfl) ?_
      refine lv_aload_n hx hb dX6_takeOver_25 rfl (lv_at hl 1 rfl) ?_
      refine w_gi 6 3 (T := TX6) (N := 5) hx hb hts in6 hown hK.1 hM (hb2).lt (hb2).k (hb2).n (hb2).f3 (by decide) rfl (by decide) k30 rfl dX6_takeOver_26 ?_
      have q : (Vw b2 3 : Int32) = nI T.2.2.length := by rw [hf b2 (by omega)]; exact hT.2.2.1
      refine lv_eqi q ?_
      refine lv_icmp_ge (tgt := 53) hx hb dX6_takeOver_29 (by decide) (fun c_29 => ?_) (fun c_29 => ?_)
      · have hjn : j = T.2.2.length := by have := nI_lei ex c_29 (by omega) (by omega); omega
        refine lv_aload_n hx hb dX6_takeOver_53 rfl (lv_at hl 0 rfl) ?_
        refine lv_aload_n hx hb dX6_takeOver_54 rfl (lv_at hl 1 rfl) ?_
        refine w_gi 6 3 (T := TX6) (N := 5) hx hb hts in6 hown hK.1 hM (hb2).lt (hb2).k (hb2).n (hb2).f3 (by decide) rfl (by decide) k30 rfl dX6_takeOver_55 ?_
        have q : (Vw b2 3 : Int32) = nI T.2.2.length := by rw [hf b2 (by omega)]; exact hT.2.2.1
        refine lv_eqi q ?_
        refine w_pi 6 3 (T := TX6) (N := 5) hx hb hts in6 tyX6 tyX6_ok nmX6 hown hK.1 hM hS (hb1).lt (hb1).k (hb1).n (hb1).f3 (by decide) rfl (by decide) k30 rfl rfl rfl rfl dX6_takeOver_58 (fun H locs hM hS => ?_)
        generalize hV58 : up2 Vw b 3 (nI T.2.2.length) = V58 at hM
        refine lv_aload_n hx hb dX6_takeOver_61 rfl (lv_at hl 0 rfl) ?_
        refine lv_aload_n hx hb dX6_takeOver_62 rfl (lv_at hl 1 rfl) ?_
        refine w_gi 6 4 (T := TX6) (N := 5) hx hb hts in6 hown hK.1 hM (hb2).lt (hb2).k (hb2).n (hb2).f4 (by decide) rfl (by decide) k51 rfl dX6_takeOver_63 ?_
        have q : (V58 b2 4 : Int32) = 1 := by rw [← hV58]; by_cases h8 : b2 = b; (subst h8; rw [up2_o _ _ (by omega), hf _ (by omega)]; exact hth); (rw [up2_k _ _ h8, hf b2 (by omega)]; exact hth)
        refine lv_eqi q ?_
        refine w_pi 6 4 (T := TX6) (N := 5) hx hb hts in6 tyX6 tyX6_ok nmX6 hown hK.1 hM hS (hb1).lt (hb1).k (hb1).n (hb1).f4 (by decide) rfl (by decide) k51 rfl rfl rfl rfl dX6_takeOver_66 (fun H locs hM hS => ?_)
        generalize hV66 : up2 V58 b 4 1 = V66 at hM
        exact w_vret (free := AE E) V66 hx hb hret hK hS hM (by subst hV58; subst hV66; subst hjn; exact ⟨⟨(hnm.otherI ((frI.rf.up (k := b) (lo := b) (hi := b) (by omega) _ _).up (by omega) _ _) (by omega)), (hsg.otherI ((frI.rf.up (k := b) (lo := b) (hi := b) (by omega) _ _).up (by omega) _ _) (by omega)), (by rw [up2_o _ _ (by decide), up2_s]), fun i hi => (hdst i hi).otherI ((frI.rf.up (k := b) (lo := b) (hi := b) (by omega) _ _).up (by omega) _ _) (by omega)⟩, (by rw [up2_s]), (((hf.wide (by omega)).up (by omega) _ _).up (by omega) _ _)⟩) hlocks dX6_takeOver_69
      · have hlt := nI_ltn ex c_29 (by omega) (by omega)
        have hj10 : j < 10 := by omega
        refine lv_aload_n hx hb dX6_takeOver_32 rfl (lv_at hl 0 rfl) ?_
        refine w_gr 6 2 (b + 5) (T := TX6) (N := 5) hx hb hts in6 hown hK.1 hM (hb1).lt (hb1).k (hb1).n (hb1).f2 (by decide) rfl (by decide) k25 rfl dX6_takeOver_33 ?_
        refine lv_iload_n hx hb dX6_takeOver_36 rfl (lv_at hl 2 rfl) ?_
        refine w_ald (N := 10) 2 hx hb hK.1 hM (hb1).lt5 (by first | rfl | (rw [(hb1).k5]; rfl)) (by first | decide | (rw [(hb1).k5]; decide)) (hb1).n5 (by rw [ex]; exact vp_in_nI hj10 (by omega)) (b + 6 + 5 * j) (by rw [ex, nI_clamp (by omega)]; exact hb1.fl hj10) dX6_takeOver_37 ?_
        refine lv_aload_n hx hb dX6_takeOver_38 rfl (lv_at hl 1 rfl) ?_
        refine w_gr 6 2 (b2 + 5) (T := TX6) (N := 5) hx hb hts in6 hown hK.1 hM (hb2).lt (hb2).k (hb2).n (hb2).f2 (by decide) rfl (by decide) k25 rfl dX6_takeOver_39 ?_
        refine lv_iload_n hx hb dX6_takeOver_42 rfl (lv_at hl 2 rfl) ?_
        refine w_ald (N := 10) 2 hx hb hK.1 hM (hb2).lt5 (by first | rfl | (rw [(hb2).k5]; rfl)) (by first | decide | (rw [(hb2).k5]; decide)) (hb2).n5 (by rw [ex]; exact vp_in_nI hj10 (by omega)) (b2 + 6 + 5 * j) (by rw [ex, nI_clamp (by omega)]; exact hb2.fl hj10) dX6_takeOver_43 ?_
        refine w_cVv (C := RX1) (As := [.ref (E.1 + (b2 + 6 + 5 * j))]) (rest := []) ⟨hx, hb, hml, hown, hts⟩ (c_X1_takeOver l (hb1.lim hj10) (hb2.lim hj10) (by omega) (hsrc j hlt) (hok.2.2.2 j hlt).2.1 (by rcases (hok.2.2.2 j hlt).2.2.1 with h | h; (rw [h]; simp); omega)) (cwV 1 hts gX6_takeOver_X1_takeOver rfl rfl rfl (by decide +kernel) ⟨Nat.le_of_ble_eq_true rfl, Nat.le_of_ble_eq_true rfl⟩) (w_recv (ci := 1) hK hM (hb1.lim hj10).lt (hb1.lim hj10).k (by decide) rfl) hM hK hS rfl hl.1 rfl (lv_room (Nat.le_of_ble_eq_true rfl)) dX6_takeOver_44 ⟨Nat.le_of_ble_eq_true rfl, Nat.le_of_ble_eq_true rfl⟩ (fun V44 H locs hp44 hM hS => ?_)
        obtain ⟨x2_47, ex2_47⟩ : ∃ y : Int32, y = x + 1 := ⟨_, rfl⟩
        refine lv_iinc (v := x2_47) (lv' := [(2, .int x2_47), (0, .ref (E.1 + b)), (1, .ref (E.1 + b2))]) hx hb dX6_takeOver_47 hl (k := 2) rfl (by rw [ex2_47]; rfl) (by decide) rfl (fun ls hl => ?_)
        refine lv_goto (tgt := 24) hx hb dX6_takeOver_50 (by decide) ?_
        have f44 := hp44.2
        exact ih V44 _ _ _ (j + 1) _ (by rw [ex2_47, ex, nI_1]) (by omega) (fun i hi => by by_cases hc : b = b2 ∧ i = j; (obtain ⟨h8, h9⟩ := hc; rw [← h8, h9]; exact hp44.1); (exact (hsrc i hi).otherI f44 (by omega))) (lt_s (fun i hi => (hdst i hi).otherI f44 (by omega)) hp44.1) (hnm.otherI f44 (by omega)) (hsg.otherI f44 (by omega)) (hf.trans (f44.wide (by omega))) (by omega) hM hS (lv_sub hl [1, 2, 0] rfl)
  exact loop24 _ V19 _ _ _ 0 0 (rfl) (Nat.zero_le _) (l19) (lt_0) (n19) (hp19.1) (f19) (Nat.lt_succ_self _) hM hS (lv_sub hl [1, 2, 0] rfl)

set_option maxHeartbeats 4000000 in
set_option maxRecDepth 100000 in
theorem c_X6_putOn (l : Launch) {E : En} {V : Vt} {b : Nat} (hb1 : isTok b) (hbd : b + 55 < 506 ∨ 507 < b) {T : Tk} (hT : tokIs V b T) (hok : okTk T) (hz : rowIs V 506 []) : CV l yX6_putOn wsX6_putOn 4 E V [.ref (E.1 + b), .ref (E.1 + 506)] (fun V' => rowIs V' 506 (tokB T) ∧ frR V V' 506) := by
  refine Met.ofW (cc := cX6_putOn) (maxL := 3) (ret := none) (by decide) rfl ?_
  intro p e s m args below meth c s₁ B hml hv
  obtain ⟨rfl, hM, hK⟩ := hv
  have hx := B.exec
  have hb := B.bytes
  have hret := B.returns
  have hts := atoms_spec (ws := wsX6_putOn) B.pre
  have hown : s.vm.findClass RX6 = some m.cls := findClass_of_methodNamed B.named
  have hlocks := B.notSynchronized
  have hsz : s.heap.size = E.1 + 610 := hM.1
  have hS : va_S (AE E) s.heap s.heap [] := va_S.rf
  have in3 : ∀ w ∈ u_ws RX3 TX3 2, w ∈ wsX6_putOn := by decide +kernel
  have in6 : ∀ w ∈ u_ws RX6 TX6 5, w ∈ wsX6_putOn := by decide +kernel
  have k14 := hts (.fieldLink RX6 14 "LimitTokens$Token" "name" "LLimitTokens$Row;") (by decide +kernel)
  have k37 := hts (.fieldLink RX6 37 "LimitTokens$Row" "length" "I") (by decide +kernel)
  have k30 := hts (.fieldLink RX6 30 "LimitTokens$Token" "count" "I") (by decide +kernel)
  have k20 := hts (.fieldLink RX6 20 "LimitTokens$Token" "sign" "LLimitTokens$Row;") (by decide +kernel)
  have k25 := hts (.fieldLink RX6 25 "LimitTokens$Token" "limits" "[LLimitTokens$Limit;") (by decide +kernel)
  have hl := lv_entry ([.ref (E.1 + b), .ref (E.1 + 506)]) (n := 3) (Nat.le_of_ble_eq_true rfl)
  rw [lg_entry_eq]
  generalize (lg_sl ([.ref (E.1 + b), .ref (E.1 + 506)]) ++ List.replicate (3 - (lg_sl ([.ref (E.1 + b), .ref (E.1 + 506)])).length) Slot.unset).toArray = ls at hl ⊢
  have hl : lv_has ls 3 [(0, .ref (E.1 + b)), (1, .ref (E.1 + 506))] := hl
  have hn := hok.2.2.1
  have hnm := hok.1.2.1
  have hsl := hok.2.1.1
  refine lv_aload_n hx hb dX6_putOn_0 rfl (lv_at hl 1 rfl) ?_
  refine lv_iconst (v := 2) hx hb dX6_putOn_1 (by decide) ?_
  refine w_cVv (C := RX3) (As := [.int 2]) (rest := []) ⟨hx, hb, hml, hown, hts⟩ (c_X3_push l rw506 hz (by simp) 2) (cwV 1 hts gX6_putOn_X3_push rfl rfl rfl (by decide +kernel) ⟨Nat.le_of_ble_eq_true rfl, Nat.le_of_ble_eq_true rfl⟩) (w_recv (ci := 3) hK hM (by decide) (by decide) (by decide) rfl) hM hK hS rfl hl.1 rfl (lv_room (Nat.le_of_ble_eq_true rfl)) dX6_putOn_2 ⟨Nat.le_of_ble_eq_true rfl, Nat.le_of_ble_eq_true rfl⟩ (fun V2 H locs hp2 hM hS => ?_)
  refine lv_aload_n hx hb dX6_putOn_5 rfl (lv_at hl 1 rfl) ?_
  refine lv_iconst (v := 2) hx hb dX6_putOn_6 (by decide) ?_
  refine w_cVv (C := RX3) (As := [.int 2]) (rest := []) ⟨hx, hb, hml, hown, hts⟩ (c_X3_push l rw506 hp2.1 (by simp) 2) (cwV 1 hts gX6_putOn_X3_push rfl rfl rfl (by decide +kernel) ⟨Nat.le_of_ble_eq_true rfl, Nat.le_of_ble_eq_true rfl⟩) (w_recv (ci := 3) hK hM (by decide) (by decide) (by decide) rfl) hM hK hS rfl hl.1 rfl (lv_room (Nat.le_of_ble_eq_true rfl)) dX6_putOn_7 ⟨Nat.le_of_ble_eq_true rfl, Nat.le_of_ble_eq_true rfl⟩ (fun V7 H locs hp7 hM hS => ?_)
  have f7 := hp2.2.trans hp7.2
  have t7 := hT.1.otherR f7 (by omega) (by omega) (by omega)
  refine lv_aload_n hx hb dX6_putOn_10 rfl (lv_at hl 1 rfl) ?_
  refine lv_aload_n hx hb dX6_putOn_11 rfl (lv_at hl 0 rfl) ?_
  refine w_gr 6 0 (b + 1) (T := TX6) (N := 5) hx hb hts in6 hown hK.1 hM (hb1).lt (hb1).k (hb1).n (hb1).f0 (by decide) rfl (by decide) k14 rfl dX6_putOn_12 ?_
  refine w_gi 3 1 (T := TX3) (N := 2) hx hb hts in3 hown hK.1 hM ((hb1).name).lt ((hb1).name).k ((hb1).name).n ((hb1).name).f1 (by decide) rfl (by decide) k37 rfl dX6_putOn_15 ?_
  have q : (V7 (b + 1) 1 : Int32) = nI T.1.length := t7.1
  refine lv_eqi q ?_
  refine w_cVv (C := RX3) (As := [.int (nI T.1.length)]) (rest := []) ⟨hx, hb, hml, hown, hts⟩ (c_X3_push l rw506 hp7.1 (by simp) (nI T.1.length)) (cwV 1 hts gX6_putOn_X3_push rfl rfl rfl (by decide +kernel) ⟨Nat.le_of_ble_eq_true rfl, Nat.le_of_ble_eq_true rfl⟩) (w_recv (ci := 3) hK hM (by decide) (by decide) (by decide) rfl) hM hK hS rfl hl.1 rfl (lv_room (Nat.le_of_ble_eq_true rfl)) dX6_putOn_18 ⟨Nat.le_of_ble_eq_true rfl, Nat.le_of_ble_eq_true rfl⟩ (fun V18 H locs hp18 hM hS => ?_)
  have t18 := t7.otherR hp18.2 (by omega) (by omega) (by omega)
  refine lv_aload_n hx hb dX6_putOn_21 rfl (lv_at hl 1 rfl) ?_
  refine lv_aload_n hx hb dX6_putOn_22 rfl (lv_at hl 0 rfl) ?_
  refine w_gr 6 0 (b + 1) (T := TX6) (N := 5) hx hb hts in6 hown hK.1 hM (hb1).lt (hb1).k (hb1).n (hb1).f0 (by decide) rfl (by decide) k14 rfl dX6_putOn_23 ?_
  refine w_cVv (C := RX3) (As := [.ref (E.1 + (b + 1))]) (rest := []) ⟨hx, hb, hml, hown, hts⟩ (c_X3_pushAll l rw506 hb1.name (by omega) hp18.1 t18 (by omega) (by simp; omega)) (cwV 1 hts gX6_putOn_X3_pushAll rfl rfl rfl (by decide +kernel) ⟨Nat.le_of_ble_eq_true rfl, Nat.le_of_ble_eq_true rfl⟩) (w_recv (ci := 3) hK hM (by decide) (by decide) (by decide) rfl) hM hK hS rfl hl.1 rfl (lv_room (Nat.le_of_ble_eq_true rfl)) dX6_putOn_26 ⟨Nat.le_of_ble_eq_true rfl, Nat.le_of_ble_eq_true rfl⟩ (fun V26 H locs hp26 hM hS => ?_)
  refine lv_aload_n hx hb dX6_putOn_29 rfl (lv_at hl 1 rfl) ?_
  refine lv_iconst (v := 0) hx hb dX6_putOn_30 (by decide) ?_
  refine w_cVv (C := RX3) (As := [.int 0]) (rest := []) ⟨hx, hb, hml, hown, hts⟩ (c_X3_push l rw506 hp26.1 (by simp; omega) 0) (cwV 1 hts gX6_putOn_X3_push rfl rfl rfl (by decide +kernel) ⟨Nat.le_of_ble_eq_true rfl, Nat.le_of_ble_eq_true rfl⟩) (w_recv (ci := 3) hK hM (by decide) (by decide) (by decide) rfl) hM hK hS rfl hl.1 rfl (lv_room (Nat.le_of_ble_eq_true rfl)) dX6_putOn_31 ⟨Nat.le_of_ble_eq_true rfl, Nat.le_of_ble_eq_true rfl⟩ (fun V31 H locs hp31 hM hS => ?_)
  have f31 : frR V V31 506 := ((f7.trans hp18.2).trans hp26.2).trans hp31.2
  refine lv_iconst (v := 0) hx hb dX6_putOn_34 (by decide) ?_
  refine lv_istore_n (lv' := [(2, .int 0), (0, .ref (E.1 + b)), (1, .ref (E.1 + 506))]) hx hb dX6_putOn_35 rfl hl (by decide) rfl (fun ls hl => ?_)
  have loop36 : ∀ (fu : Nat) (Vw : Vt) (H : Heap) (locs : List Loc) (ls : Array Slot) (j : Nat) (x : Int32) (ex : x = nI j) (hj : j ≤ T.2.2.length) (hr : rowIs Vw 506 (((([] ++ [2]) ++ [2]) ++ [nI T.1.length] ++ T.1) ++ [0] ++ (T.2.2.take j).flatMap limB)) (hf : frR V Vw 506), T.2.2.length - j < fu → Wd E Vw H → va_S (AE E) s.heap H locs → lv_has ls 3 [(0, .ref (E.1 + b)), (1, .ref (E.1 + 506)), (2, .int x)] → W p l e (headSpec wsX6_putOn (rmD 4)).room s m ([.ref (E.1 + b), .ref (E.1 + 506)] : List Value).toArray below meth c H locs 0 0 (MQ below (QV E (fun V' => Wd E V') (fun V' => rowIs V' 506 (tokB T) ∧ frR V V' 506)) ([.ref (E.1 + b), .ref (E.1 + 506)] : List Value).toArray s 0 0 (AE E)) (F0 m 36 ls []) := by
    intro fu
    induction fu with
    | zero => intros; omega
    | succ fu ih =>
      intro Vw H locs ls j x ex hj hr hf hfu hM hS hl
      have tkw : tokIs Vw b T := hT.otherI hn (hf.toI (lo := 506) (hi := 507) (by omega)) (by omega)
      refine lv_iload_n hx hb dX6_putOn_36 rfl (lv_at hl 2 rfl) ?_
      refine lv_aload_n hx hb dX6_putOn_37 rfl (lv_at hl 0 rfl) ?_
      refine w_gi 6 3 (T := TX6) (N := 5) hx hb hts in6 hown hK.1 hM (hb1).lt (hb1).k (hb1).n (hb1).f3 (by decide) rfl (by decide) k30 rfl dX6_putOn_38 ?_
      have q : (Vw b 3 : Int32) = nI T.2.2.length := tkw.2.2.1
      refine lv_eqi q ?_
      refine lv_icmp_ge (tgt := 60) hx hb dX6_putOn_41 (by decide) (fun c_41 => ?_) (fun c_41 => ?_)
      · have hjn : j = T.2.2.length := by have := nI_lei ex c_41 (by omega) (by omega); omega
        refine lv_aload_n hx hb dX6_putOn_60 rfl (lv_at hl 1 rfl) ?_
        refine lv_iconst (v := 0) hx hb dX6_putOn_61 (by decide) ?_
        refine w_cVv (C := RX3) (As := [.int 0]) (rest := []) ⟨hx, hb, hml, hown, hts⟩ (c_X3_push l rw506 hr (by (have := take_len hok.2.2.2 hj; simp at this ⊢; omega)) 0) (cwV 1 hts gX6_putOn_X3_push rfl rfl rfl (by decide +kernel) ⟨Nat.le_of_ble_eq_true rfl, Nat.le_of_ble_eq_true rfl⟩) (w_recv (ci := 3) hK hM (by decide) (by decide) (by decide) rfl) hM hK hS rfl hl.1 rfl (lv_room (Nat.le_of_ble_eq_true rfl)) dX6_putOn_62 ⟨Nat.le_of_ble_eq_true rfl, Nat.le_of_ble_eq_true rfl⟩ (fun V62 H locs hp62 hM hS => ?_)
        have f62 := hf.trans hp62.2
        refine lv_aload_n hx hb dX6_putOn_65 rfl (lv_at hl 1 rfl) ?_
        refine lv_bipush (v := 6) hx hb dX6_putOn_66 (by decide) ?_
        refine w_cVv (C := RX3) (As := [.int 6]) (rest := []) ⟨hx, hb, hml, hown, hts⟩ (c_X3_push l rw506 hp62.1 (by (have := take_len hok.2.2.2 hj; simp at this ⊢; omega)) 6) (cwV 1 hts gX6_putOn_X3_push rfl rfl rfl (by decide +kernel) ⟨Nat.le_of_ble_eq_true rfl, Nat.le_of_ble_eq_true rfl⟩) (w_recv (ci := 3) hK hM (by decide) (by decide) (by decide) rfl) hM hK hS rfl hl.1 rfl (lv_room (Nat.le_of_ble_eq_true rfl)) dX6_putOn_68 ⟨Nat.le_of_ble_eq_true rfl, Nat.le_of_ble_eq_true rfl⟩ (fun V68 H locs hp68 hM hS => ?_)
        refine lv_aload_n hx hb dX6_putOn_71 rfl (lv_at hl 1 rfl) ?_
        refine lv_bipush (v := 32) hx hb dX6_putOn_72 (by decide) ?_
        refine w_cVv (C := RX3) (As := [.int 32]) (rest := []) ⟨hx, hb, hml, hown, hts⟩ (c_X3_push l rw506 hp68.1 (by (have := take_len hok.2.2.2 hj; simp at this ⊢; omega)) 32) (cwV 1 hts gX6_putOn_X3_push rfl rfl rfl (by decide +kernel) ⟨Nat.le_of_ble_eq_true rfl, Nat.le_of_ble_eq_true rfl⟩) (w_recv (ci := 3) hK hM (by decide) (by decide) (by decide) rfl) hM hK hS rfl hl.1 rfl (lv_room (Nat.le_of_ble_eq_true rfl)) dX6_putOn_74 ⟨Nat.le_of_ble_eq_true rfl, Nat.le_of_ble_eq_true rfl⟩ (fun V74 H locs hp74 hM hS => ?_)
        have f74 := (f62.trans hp68.2).trans hp74.2
        have s74 := hT.2.1.otherR f74 (by omega) (by omega) (by omega)
        refine lv_aload_n hx hb dX6_putOn_77 rfl (lv_at hl 1 rfl) ?_
        refine lv_aload_n hx hb dX6_putOn_78 rfl (lv_at hl 0 rfl) ?_
        refine w_gr 6 1 (b + 3) (T := TX6) (N := 5) hx hb hts in6 hown hK.1 hM (hb1).lt (hb1).k (hb1).n (hb1).f1 (by decide) rfl (by decide) k20 rfl dX6_putOn_79 ?_
        refine w_cVv (C := RX3) (As := [.ref (E.1 + (b + 3))]) (rest := []) ⟨hx, hb, hml, hown, hts⟩ (c_X3_pushAll l rw506 hb1.sign (by omega) hp74.1 s74 (by omega) (by have := take_len hok.2.2.2 hj; simp at this ⊢; omega)) (cwV 1 hts gX6_putOn_X3_pushAll rfl rfl rfl (by decide +kernel) ⟨Nat.le_of_ble_eq_true rfl, Nat.le_of_ble_eq_true rfl⟩) (w_recv (ci := 3) hK hM (by decide) (by decide) (by decide) rfl) hM hK hS rfl hl.1 rfl (lv_room (Nat.le_of_ble_eq_true rfl)) dX6_putOn_82 ⟨Nat.le_of_ble_eq_true rfl, Nat.le_of_ble_eq_true rfl⟩ (fun V82 H locs hp82 hM hS => ?_)
        exact w_vret (free := AE E) V82 hx hb hret hK hS hM (⟨by have := hp82.1; rw [hjn, List.take_of_length_le (Nat.le_refl _)] at this; unfold tokB; simpa using this, f74.trans hp82.2⟩) hlocks dX6_putOn_85
      · have hlt := nI_ltn ex c_41 (by omega) (by omega)
        have hj10 : j < 10 := by omega
        refine lv_aload_n hx hb dX6_putOn_44 rfl (lv_at hl 0 rfl) ?_
        refine w_gr 6 2 (b + 5) (T := TX6) (N := 5) hx hb hts in6 hown hK.1 hM (hb1).lt (hb1).k (hb1).n (hb1).f2 (by decide) rfl (by decide) k25 rfl dX6_putOn_45 ?_
        refine lv_iload_n hx hb dX6_putOn_48 rfl (lv_at hl 2 rfl) ?_
        refine w_ald (N := 10) 2 hx hb hK.1 hM (hb1).lt5 (by first | rfl | (rw [(hb1).k5]; rfl)) (by first | decide | (rw [(hb1).k5]; decide)) (hb1).n5 (by rw [ex]; exact vp_in_nI hj10 (by omega)) (b + 6 + 5 * j) (by rw [ex, nI_clamp (by omega)]; exact hb1.fl hj10) dX6_putOn_49 ?_
        refine lv_aload_n hx hb dX6_putOn_50 rfl (lv_at hl 1 rfl) ?_
        refine w_cVv (C := RX1) (As := [.ref (E.1 + 506)]) (rest := []) ⟨hx, hb, hml, hown, hts⟩ (c_X1_putOn l (hb1.lim hj10) (by omega) (tkw.2.2.2 j hlt) (hok.2.2.2 j hlt) hr (by have := take_len hok.2.2.2 hj; simp at this ⊢; omega)) (cwV 1 hts gX6_putOn_X1_putOn rfl rfl rfl (by decide +kernel) ⟨Nat.le_of_ble_eq_true rfl, Nat.le_of_ble_eq_true rfl⟩) (w_recv (ci := 1) hK hM (hb1.lim hj10).lt (hb1.lim hj10).k (by decide) rfl) hM hK hS rfl hl.1 rfl (lv_room (Nat.le_of_ble_eq_true rfl)) dX6_putOn_51 ⟨Nat.le_of_ble_eq_true rfl, Nat.le_of_ble_eq_true rfl⟩ (fun V51 H locs hp51 hM hS => ?_)
        obtain ⟨x2_54, ex2_54⟩ : ∃ y : Int32, y = x + 1 := ⟨_, rfl⟩
        refine lv_iinc (v := x2_54) (lv' := [(2, .int x2_54), (0, .ref (E.1 + b)), (1, .ref (E.1 + 506))]) hx hb dX6_putOn_54 hl (k := 2) rfl (by rw [ex2_54]; rfl) (by decide) rfl (fun ls hl => ?_)
        refine lv_goto (tgt := 36) hx hb dX6_putOn_57 (by decide) ?_
        exact ih V51 _ _ _ (j + 1) _ (by rw [ex2_54, ex, nI_1]) (by omega) (by rw [take_flat hlt]; have := hp51.1; simpa using this) (hf.trans hp51.2) (by omega) hM hS (lv_sub hl [1, 2, 0] rfl)
  exact loop36 _ V31 _ _ _ 0 0 (rfl) (Nat.zero_le _) (by simpa using hp31.1) (f31) (Nat.lt_succ_self _) hM hS (lv_sub hl [1, 2, 0] rfl)
