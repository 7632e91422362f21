-- needs: 44 450 451 452
set_option maxHeartbeats 4000000 in
set_option maxRecDepth 100000 in
theorem c_X8_mix (l : Launch) {E : En} {V : Vt} (hA : ∀ i, i < 64 → V 582 i = cuT.getD i 0) : CV l yX8_mix wsX8_mix 1 E V [.ref (E.1 + 580)] (fun V' => (∀ i, i < 8 → V' 583 i = shaB (V 583) (V 584) i) ∧ ∀ k, k ≠ 583 → k ≠ 584 → k ≠ 585 → V' k = V k) := by
  refine Met.ofW (cc := cX8_mix) (maxL := 7) (ret := none) (by decide) rfl ?_
  intro p e s m args below meth c s₁ B hml hv
  obtain ⟨rfl, hM, hK⟩ := hv
  have hx := B.exec
  have hb := B.bytes
  have hret := B.returns
  have hts := atoms_spec (ws := wsX8_mix) B.pre
  have hown : s.vm.findClass RX8 = some m.cls := findClass_of_methodNamed B.named
  have hlocks := B.notSynchronized
  have hsz : s.heap.size = E.1 + 610 := hM.1
  have hS : va_S (AE E) s.heap s.heap [] := va_S.rf
  have in8 : ∀ w ∈ u_ws RX8 TX8 42, w ∈ wsX8_mix := by decide +kernel
  have k16 := hts (.fieldLink RX8 16 "LimitTokensModel" "h" "[I") (by decide +kernel)
  have k22 := hts (.fieldLink RX8 22 "LimitTokensModel" "v" "[I") (by decide +kernel)
  have k13 := hts (.fieldLink RX8 13 "LimitTokensModel" "adds" "[I") (by decide +kernel)
  have k19 := hts (.fieldLink RX8 19 "LimitTokensModel" "w" "[I") (by decide +kernel)
  have hl := lv_entry ([.ref (E.1 + 580)]) (n := 7) (Nat.le_of_ble_eq_true rfl)
  rw [lg_entry_eq]
  generalize (lg_sl ([.ref (E.1 + 580)]) ++ List.replicate (7 - (lg_sl ([.ref (E.1 + 580)])).length) Slot.unset).toArray = ls at hl ⊢
  have hl : lv_has ls 7 [(0, .ref (E.1 + 580))] := hl
  refine lv_bipush (v := 16) hx hb dX8_mix_0 (by decide) ?_
  refine lv_istore_n (lv' := [(1, .int 16), (0, .ref (E.1 + 580))]) hx hb dX8_mix_2 rfl hl (by decide) rfl (fun ls hl => ?_)
  have loop3 : ∀ (fu : Nat) (Vw : Vt) (H : Heap) (locs : List Loc) (ls : Array Slot) (n : Nat) (hn : n ≤ 48) (hz : ∀ t, t < 16 + n → Vw 584 t = sched (V 584) n t) (hf : ∀ k, k ≠ 584 → Vw k = V k), 48 - n < fu → Wd E Vw H → va_S (AE E) s.heap H locs → lv_has ls 7 [(0, .ref (E.1 + 580)), (1, .int (nI (16 + n)))] → W p l e (headSpec wsX8_mix (rmD 1)).room s m ([.ref (E.1 + 580)] : List Value).toArray below meth c H locs 0 0 (MQ below (QV E (fun V' => Wd E V') (fun V' => (∀ i, i < 8 → V' 583 i = shaB (V 583) (V 584) i) ∧ ∀ k, k ≠ 583 → k ≠ 584 → k ≠ 585 → V' k = V k)) ([.ref (E.1 + 580)] : List Value).toArray s 0 0 (AE E)) (F0 m 3 ls []) := by
    intro fu
    induction fu with
    | zero => intros; omega
    | succ fu ih3 =>
      intro Vw H locs ls n hn hz hf hfu hM hS hl
      refine lv_iload_n hx hb dX8_mix_3 rfl (lv_at hl 1 rfl) ?_
      refine lv_bipush (v := 64) hx hb dX8_mix_4 (by decide) ?_
      refine lv_icmp_ge (tgt := 96) hx hb dX8_mix_6 (by decide) (fun c_6 => ?_) (fun c_6 => ?_)
      · have n_6 : 64 ≤ (16 + n) := (nLe (a := 64) (b := (16 + n)) rfl rfl (by omega) (by omega)).mp c_6
        have hn48 : n = 48 := by omega
        subst hn48
        refine lv_iconst (v := 0) hx hb dX8_mix_96 (by decide) ?_
        refine lv_istore_n (lv' := [(1, .int 0), (0, .ref (E.1 + 580))]) hx hb dX8_mix_97 rfl hl (by decide) rfl (fun ls hl => ?_)
        have loop98 : ∀ (fu : Nat) (Vc : Vt) (H : Heap) (locs : List Loc) (ls : Array Slot) (j : Nat) (hj : j ≤ 8) (hc : cpx Vc Vw 585 0 j (V 583)), 8 - j < fu → Wd E Vc H → va_S (AE E) s.heap H locs → lv_has ls 7 [(0, .ref (E.1 + 580)), (1, .int (nI j))] → W p l e (headSpec wsX8_mix (rmD 1)).room s m ([.ref (E.1 + 580)] : List Value).toArray below meth c H locs 0 0 (MQ below (QV E (fun V' => Wd E V') (fun V' => (∀ i, i < 8 → V' 583 i = shaB (V 583) (V 584) i) ∧ ∀ k, k ≠ 583 → k ≠ 584 → k ≠ 585 → V' k = V k)) ([.ref (E.1 + 580)] : List Value).toArray s 0 0 (AE E)) (F0 m 98 ls []) := by
          intro fu
          induction fu with
          | zero => intros; omega
          | succ fu ih98 =>
            intro Vc H locs ls j hj hc hfu hM hS hl
            refine lv_iload_n hx hb dX8_mix_98 rfl (lv_at hl 1 rfl) ?_
            refine lv_bipush (v := 8) hx hb dX8_mix_99 (by decide) ?_
            refine lv_icmp_ge (tgt := 122) hx hb dX8_mix_101 (by decide) (fun c_101 => ?_) (fun c_101 => ?_)
            · have n_101 : 8 ≤ j := (nLe (a := 8) (b := j) rfl rfl (by omega) (by omega)).mp c_101
              refine lv_iconst (v := 0) hx hb dX8_mix_122 (by decide) ?_
              refine lv_istore_n (lv' := [(1, .int 0), (0, .ref (E.1 + 580))]) hx hb dX8_mix_123 rfl hl (by decide) rfl (fun ls hl => ?_)
              have loop124 : ∀ (fu : Nat) (Vr : Vt) (H : Heap) (locs : List Loc) (ls : Array Slot) (r : Nat) (hr8 : r ≤ 64) (hr : ∀ i, i < 8 → Vr 585 i = rnds (Vw 584) (V 583) r i) (hfr : ∀ k, k ≠ 585 → Vr k = Vw k), 64 - r < fu → Wd E Vr H → va_S (AE E) s.heap H locs → lv_has ls 7 [(0, .ref (E.1 + 580)), (1, .int (nI r))] → W p l e (headSpec wsX8_mix (rmD 1)).room s m ([.ref (E.1 + 580)] : List Value).toArray below meth c H locs 0 0 (MQ below (QV E (fun V' => Wd E V') (fun V' => (∀ i, i < 8 → V' 583 i = shaB (V 583) (V 584) i) ∧ ∀ k, k ≠ 583 → k ≠ 584 → k ≠ 585 → V' k = V k)) ([.ref (E.1 + 580)] : List Value).toArray s 0 0 (AE E)) (F0 m 124 ls []) := by
                intro fu
                induction fu with
                | zero => intros; omega
                | succ fu ih124 =>
                  intro Vr H locs ls r hr8 hr hfr hfu hM hS hl
                  refine lv_iload_n hx hb dX8_mix_124 rfl (lv_at hl 1 rfl) ?_
                  refine lv_bipush (v := 64) hx hb dX8_mix_125 (by decide) ?_
                  refine lv_icmp_ge (tgt := 321) hx hb dX8_mix_127 (by decide) (fun c_127 => ?_) (fun c_127 => ?_)
                  · have n_127 : 64 ≤ r := (nLe (a := 64) (b := r) rfl rfl (by omega) (by omega)).mp c_127
                    have hr64e : r = 64 := by omega
                    subst hr64e
                    have hr64 := hr
                    refine lv_iconst (v := 0) hx hb dX8_mix_321 (by decide) ?_
                    refine lv_istore_n (lv' := [(1, .int 0), (0, .ref (E.1 + 580))]) hx hb dX8_mix_322 rfl hl (by decide) rfl (fun ls hl => ?_)
                    have loop323 : ∀ (fu : Nat) (Vh : Vt) (H : Heap) (locs : List Loc) (ls : Array Slot) (j2 : Nat) (hj2 : j2 ≤ 8) (hh : cpx Vh Vr 583 0 j2 (fun i => V 583 i + rnds (Vw 584) (V 583) 64 i)), 8 - j2 < fu → Wd E Vh H → va_S (AE E) s.heap H locs → lv_has ls 7 [(0, .ref (E.1 + 580)), (1, .int (nI j2))] → W p l e (headSpec wsX8_mix (rmD 1)).room s m ([.ref (E.1 + 580)] : List Value).toArray below meth c H locs 0 0 (MQ below (QV E (fun V' => Wd E V') (fun V' => (∀ i, i < 8 → V' 583 i = shaB (V 583) (V 584) i) ∧ ∀ k, k ≠ 583 → k ≠ 584 → k ≠ 585 → V' k = V k)) ([.ref (E.1 + 580)] : List Value).toArray s 0 0 (AE E)) (F0 m 323 ls []) := by
                      intro fu
                      induction fu with
                      | zero => intros; omega
                      | succ fu ih323 =>
                        intro Vh H locs ls j2 hj2 hh hfu hM hS hl
                        refine lv_iload_n hx hb dX8_mix_323 rfl (lv_at hl 1 rfl) ?_
                        refine lv_bipush (v := 8) hx hb dX8_mix_324 (by decide) ?_
                        refine lv_icmp_ge (tgt := 350) hx hb dX8_mix_326 (by decide) (fun c_326 => ?_) (fun c_326 => ?_)
                        · have n_326 : 8 ≤ j2 := (nLe (a := 8) (b := j2) rfl rfl (by omega) (by omega)).mp c_326
                          exact w_vret (free := AE E) Vh hx hb hret hK hS hM (⟨fun i hi => by have := hh.1 i (by omega); rw [Nat.zero_add] at this; rw [this]; show V 583 i + rnds (Vw 584) (V 583) 64 i = V 583 i + rnds (sched (V 584) 48) (V 583) 64 i; rw [rnds_congr (s' := V 583) (fun _ _ => rfl) 64 (w' := sched (V 584) 48) (fun t ht => hz t (by omega)) i hi], fun k a b c => by rw [hh.2.2 k a, hfr k c, hf k b]⟩) hlocks dX8_mix_350
                        · have n_326 : ¬ 8 ≤ j2 := fun q9 => c_326 ((nLe (a := 8) (b := j2) rfl rfl (by omega) (by omega)).mpr q9)
                          refine lv_aload_n hx hb dX8_mix_329 rfl (lv_at hl 0 rfl) ?_
                          refine w_gr 8 3 583 (T := TX8) (N := 42) hx hb hts in8 hown hK.1 hM (by decide) (by decide) (by decide) (by decide) (by decide) rfl (by decide) k16 rfl dX8_mix_330 ?_
                          refine lv_iload_n hx hb dX8_mix_333 rfl (lv_at hl 1 rfl) ?_
                          refine lv_dup2_11 hx hb dX8_mix_334 rfl rfl ?_
                          have i_335 : (nI j2 : Int32) = nI (j2) := rfl
                          refine w_ild (N := 8) hx hb hK.1 hM (by decide) (by decide) (by decide) (by rw [i_335]; exact vp_in_nI (by omega) (by omega)) dX8_mix_335 ?_
                          have q : (Vh 583 (nI j2).toNatClampNeg : Int32) = Vh 583 j2 := by rw [i_335, nI_clamp (by omega)]
                          refine lv_eqi q ?_
                          refine lv_aload_n hx hb dX8_mix_336 rfl (lv_at hl 0 rfl) ?_
                          refine w_gr 8 5 585 (T := TX8) (N := 42) hx hb hts in8 hown hK.1 hM (by decide) (by decide) (by decide) (by decide) (by decide) rfl (by decide) k22 rfl dX8_mix_337 ?_
                          refine lv_iload_n hx hb dX8_mix_340 rfl (lv_at hl 1 rfl) ?_
                          have i_341 : (nI j2 : Int32) = nI (j2) := rfl
                          refine w_ild (N := 8) hx hb hK.1 hM (by decide) (by decide) (by decide) (by rw [i_341]; exact vp_in_nI (by omega) (by omega)) dX8_mix_341 ?_
                          have q : (Vh 585 (nI j2).toNatClampNeg : Int32) = Vh 585 j2 := by rw [i_341, nI_clamp (by omega)]
                          refine lv_eqi q ?_
                          refine lv_iadd hx hb dX8_mix_342 ?_
                          have i_343 : (nI j2 : Int32) = nI (j2) := rfl
                          have j_343 : (nI j2).toNatClampNeg = j2 := by rw [i_343, nI_clamp (by omega)]
                          refine w_ist (N := 8) hx hb hK.1 hM hS (by decide) (by decide) (by decide) (by rw [i_343]; exact vp_in_nI (by omega) (by omega)) dX8_mix_343 (fun H locs hM hS => ?_)
                          rw [j_343] at hM
                          generalize hV343 : up2 Vh 583 j2 ((Vh 583 j2) + (Vh 585 j2)) = V343 at hM
                          obtain ⟨x1_344, ex1_344⟩ : ∃ y : Int32, y = (nI j2) + 1 := ⟨_, rfl⟩
                          refine lv_iinc (v := x1_344) (lv' := [(1, .int x1_344), (0, .ref (E.1 + 580))]) hx hb dX8_mix_344 hl (k := 1) rfl (by rw [ex1_344]; rfl) (by decide) rfl (fun ls hl => ?_)
                          refine lv_goto (tgt := 323) hx hb dX8_mix_347 (by decide) ?_
                          rw [show x1_344 = nI (j2 + 1) from (ex1_344.trans (nAdd rfl rfl))] at hl
                          exact ih323 V343 _ _ _ (j2 + 1) (by omega) (hh.s hV343 (by omega) (by rw [hh.2.1 j2 (by omega), hh.2.2 585 (by decide), hr64 j2 (by omega), hfr 583 (by decide), hf 583 (by decide)])) (by omega) hM hS (lv_sub hl [1, 0] rfl)
                    exact loop323 _ Vr _ _ _ 0 (Nat.zero_le _) (cpx.z _ _ _ _) (Nat.lt_succ_self _) hM hS (lv_sub hl [1, 0] rfl)
                  · have n_127 : ¬ 64 ≤ r := fun q9 => c_127 ((nLe (a := 64) (b := r) rfl rfl (by omega) (by omega)).mpr q9)
                    refine lv_aload_n hx hb dX8_mix_130 rfl (lv_at hl 0 rfl) ?_
                    refine w_gr 8 5 585 (T := TX8) (N := 42) hx hb hts in8 hown hK.1 hM (by decide) (by decide) (by decide) (by decide) (by decide) rfl (by decide) k22 rfl dX8_mix_131 ?_
                    refine lv_iconst (v := 4) hx hb dX8_mix_134 (by decide) ?_
                    have i_135 : (4 : Int32) = nI (4) := rfl
                    refine w_ild (N := 8) hx hb hK.1 hM (by decide) (by decide) (by decide) (by rw [i_135]; exact vp_in_nI (by omega) (by omega)) dX8_mix_135 ?_
                    have q : (Vr 585 (4 : Int32).toNatClampNeg : Int32) = Vr 585 4 := by rw [i_135, nI_clamp (by omega)]
                    refine lv_eqi q ?_
                    refine lv_topi (fun x2_136 ex2_136 => ?_)
                    refine lv_istore_n (lv' := [(2, .int x2_136), (0, .ref (E.1 + 580)), (1, .int (nI r))]) hx hb dX8_mix_136 rfl hl (by decide) rfl (fun ls hl => ?_)
                    refine lv_aload_n hx hb dX8_mix_137 rfl (lv_at hl 1 rfl) ?_
                    refine w_gr 8 5 585 (T := TX8) (N := 42) hx hb hts in8 hown hK.1 hM (by decide) (by decide) (by decide) (by decide) (by decide) rfl (by decide) k22 rfl dX8_mix_138 ?_
                    refine lv_iconst (v := 0) hx hb dX8_mix_141 (by decide) ?_
                    have i_142 : (0 : Int32) = nI (0) := rfl
                    refine w_ild (N := 8) hx hb hK.1 hM (by decide) (by decide) (by decide) (by rw [i_142]; exact vp_in_nI (by omega) (by omega)) dX8_mix_142 ?_
                    have q : (Vr 585 (0 : Int32).toNatClampNeg : Int32) = Vr 585 0 := by rw [i_142, nI_clamp (by omega)]
                    refine lv_eqi q ?_
                    refine lv_topi (fun x3_143 ex3_143 => ?_)
                    refine lv_istore_n (lv' := [(3, .int x3_143), (2, .int x2_136), (0, .ref (E.1 + 580)), (1, .int (nI r))]) hx hb dX8_mix_143 rfl hl (by decide) rfl (fun ls hl => ?_)
                    refine lv_aload_n hx hb dX8_mix_144 rfl (lv_at hl 2 rfl) ?_
                    refine w_gr 8 5 585 (T := TX8) (N := 42) hx hb hts in8 hown hK.1 hM (by decide) (by decide) (by decide) (by decide) (by decide) rfl (by decide) k22 rfl dX8_mix_145 ?_
                    refine lv_bipush (v := 7) hx hb dX8_mix_148 (by decide) ?_
                    have i_150 : (7 : Int32) = nI (7) := rfl
                    refine w_ild (N := 8) hx hb hK.1 hM (by decide) (by decide) (by decide) (by rw [i_150]; exact vp_in_nI (by omega) (by omega)) dX8_mix_150 ?_
                    have q : (Vr 585 (7 : Int32).toNatClampNeg : Int32) = Vr 585 7 := by rw [i_150, nI_clamp (by omega)]
                    refine lv_eqi q ?_
                    refine lv_iload_n hx hb dX8_mix_151 rfl (lv_at hl 1 rfl) ?_
                    refine lv_bipush (v := 6) hx hb dX8_mix_152 (by decide) ?_
                    refine w_cSi (As := [.int x2_136, .int 6]) (rest := [.int (Vr 585 7)]) ⟨hx, hb, hml, hown, hts⟩ (c_X8_turned l x2_136 6) (va_cwS 2 hts gX8_mix_X8_turned rfl rfl rfl (by decide +kernel) ⟨Nat.le_of_ble_eq_true rfl, Nat.le_of_ble_eq_true rfl⟩) hM hK hS rfl hl.1 rfl (lv_room (Nat.le_of_ble_eq_true rfl)) dX8_mix_154 ⟨Nat.le_of_ble_eq_true rfl, Nat.le_of_ble_eq_true rfl⟩ (fun r154 V154 H locs hp154 hM hS => ?_)
                    obtain ⟨er154, eV⟩ := hp154
                    rw [eV] at hM; clear eV
                    have q : (r154 : Int32) = rt x2_136 6 := er154
                    refine lv_eqi q ?_
                    refine lv_iload_n hx hb dX8_mix_157 rfl (lv_at hl 1 rfl) ?_
                    refine lv_bipush (v := 11) hx hb dX8_mix_158 (by decide) ?_
                    refine w_cSi (As := [.int x2_136, .int 11]) (rest := [.int (rt x2_136 6), .int (Vr 585 7)]) ⟨hx, hb, hml, hown, hts⟩ (c_X8_turned l x2_136 11) (va_cwS 2 hts gX8_mix_X8_turned rfl rfl rfl (by decide +kernel) ⟨Nat.le_of_ble_eq_true rfl, Nat.le_of_ble_eq_true rfl⟩) hM hK hS rfl hl.1 rfl (lv_room (Nat.le_of_ble_eq_true rfl)) dX8_mix_160 ⟨Nat.le_of_ble_eq_true rfl, Nat.le_of_ble_eq_true rfl⟩ (fun r160 V160 H locs hp160 hM hS => ?_)
                    obtain ⟨er160, eV⟩ := hp160
                    rw [eV] at hM; clear eV
                    have q : (r160 : Int32) = rt x2_136 11 := er160
                    refine lv_eqi q ?_
                    refine lv_ixor hx hb dX8_mix_163 ?_
                    refine lv_iload_n hx hb dX8_mix_164 rfl (lv_at hl 1 rfl) ?_
                    refine lv_bipush (v := 25) hx hb dX8_mix_165 (by decide) ?_
                    refine w_cSi (As := [.int x2_136, .int 25]) (rest := [.int ((rt x2_136 6) ^^^ (rt x2_136 11)), .int (Vr 585 7)]) ⟨hx, hb, hml, hown, hts⟩ (c_X8_turned l x2_136 25) (va_cwS 2 hts gX8_mix_X8_turned rfl rfl rfl (by decide +kernel) ⟨Nat.le_of_ble_eq_true rfl, Nat.le_of_ble_eq_true rfl⟩) hM hK hS rfl hl.1 rfl (lv_room (Nat.le_of_ble_eq_true rfl)) dX8_mix_167 ⟨Nat.le_of_ble_eq_true rfl, Nat.le_of_ble_eq_true rfl⟩ (fun r167 V167 H locs hp167 hM hS => ?_)
                    obtain ⟨er167, eV⟩ := hp167
                    rw [eV] at hM; clear eV
                    have q : (r167 : Int32) = rt x2_136 25 := er167
                    refine lv_eqi q ?_
                    refine lv_ixor hx hb dX8_mix_170 ?_
                    refine lv_iadd hx hb dX8_mix_171 ?_
                    refine lv_iload_n hx hb dX8_mix_172 rfl (lv_at hl 1 rfl) ?_
                    refine lv_aload_n hx hb dX8_mix_173 rfl (lv_at hl 2 rfl) ?_
                    refine w_gr 8 5 585 (T := TX8) (N := 42) hx hb hts in8 hown hK.1 hM (by decide) (by decide) (by decide) (by decide) (by decide) rfl (by decide) k22 rfl dX8_mix_174 ?_
                    refine lv_iconst (v := 5) hx hb dX8_mix_177 (by decide) ?_
                    have i_178 : (5 : Int32) = nI (5) := rfl
                    refine w_ild (N := 8) hx hb hK.1 hM (by decide) (by decide) (by decide) (by rw [i_178]; exact vp_in_nI (by omega) (by omega)) dX8_mix_178 ?_
                    have q : (Vr 585 (5 : Int32).toNatClampNeg : Int32) = Vr 585 5 := by rw [i_178, nI_clamp (by omega)]
                    refine lv_eqi q ?_
                    refine lv_iand hx hb dX8_mix_179 ?_
                    refine lv_iload_n hx hb dX8_mix_180 rfl (lv_at hl 1 rfl) ?_
                    refine lv_iconst (v := (-1)) hx hb dX8_mix_181 (by decide) ?_
                    refine lv_ixor hx hb dX8_mix_182 ?_
                    refine lv_aload_n hx hb dX8_mix_183 rfl (lv_at hl 2 rfl) ?_
                    refine w_gr 8 5 585 (T := TX8) (N := 42) hx hb hts in8 hown hK.1 hM (by decide) (by decide) (by decide) (by decide) (by decide) rfl (by decide) k22 rfl dX8_mix_184 ?_
                    refine lv_bipush (v := 6) hx hb dX8_mix_187 (by decide) ?_
                    have i_189 : (6 : Int32) = nI (6) := rfl
                    refine w_ild (N := 8) hx hb hK.1 hM (by decide) (by decide) (by decide) (by rw [i_189]; exact vp_in_nI (by omega) (by omega)) dX8_mix_189 ?_
                    have q : (Vr 585 (6 : Int32).toNatClampNeg : Int32) = Vr 585 6 := by rw [i_189, nI_clamp (by omega)]
                    refine lv_eqi q ?_
                    refine lv_iand hx hb dX8_mix_190 ?_
                    refine lv_ixor hx hb dX8_mix_191 ?_
                    refine lv_iadd hx hb dX8_mix_192 ?_
                    refine lv_aload_n hx hb dX8_mix_193 rfl (lv_at hl 2 rfl) ?_
                    refine w_gr 8 2 582 (T := TX8) (N := 42) hx hb hts in8 hown hK.1 hM (by decide) (by decide) (by decide) (by decide) (by decide) rfl (by decide) k13 rfl dX8_mix_194 ?_
                    refine lv_iload_n hx hb dX8_mix_197 rfl (lv_at hl 3 rfl) ?_
                    have i_198 : (nI r : Int32) = nI (r) := rfl
                    refine w_ild (N := 64) hx hb hK.1 hM (by decide) (by decide) (by decide) (by rw [i_198]; exact vp_in_nI (by omega) (by omega)) dX8_mix_198 ?_
                    have q : (Vr 582 (nI r).toNatClampNeg : Int32) = Vr 582 r := by rw [i_198, nI_clamp (by omega)]
                    refine lv_eqi q ?_
                    refine lv_iadd hx hb dX8_mix_199 ?_
                    refine lv_aload_n hx hb dX8_mix_200 rfl (lv_at hl 2 rfl) ?_
                    refine w_gr 8 4 584 (T := TX8) (N := 42) hx hb hts in8 hown hK.1 hM (by decide) (by decide) (by decide) (by decide) (by decide) rfl (by decide) k19 rfl dX8_mix_201 ?_
                    refine lv_iload_n hx hb dX8_mix_204 rfl (lv_at hl 3 rfl) ?_
                    have i_205 : (nI r : Int32) = nI (r) := rfl
                    refine w_ild (N := 64) hx hb hK.1 hM (by decide) (by decide) (by decide) (by rw [i_205]; exact vp_in_nI (by omega) (by omega)) dX8_mix_205 ?_
                    have q : (Vr 584 (nI r).toNatClampNeg : Int32) = Vr 584 r := by rw [i_205, nI_clamp (by omega)]
                    refine lv_eqi q ?_
                    refine lv_iadd hx hb dX8_mix_206 ?_
                    refine lv_topi (fun x4_207 ex4_207 => ?_)
                    refine lv_istore (lv' := [(4, .int x4_207), (3, .int x3_143), (2, .int x2_136), (0, .ref (E.1 + 580)), (1, .int (nI r))]) hx hb dX8_mix_207 hl (by decide) rfl (fun ls hl => ?_)
                    refine lv_iload_n hx hb dX8_mix_209 rfl (lv_at hl 1 rfl) ?_
                    refine lv_iconst (v := 2) hx hb dX8_mix_210 (by decide) ?_
                    refine w_cSi (As := [.int x3_143, .int 2]) (rest := []) ⟨hx, hb, hml, hown, hts⟩ (c_X8_turned l x3_143 2) (va_cwS 2 hts gX8_mix_X8_turned rfl rfl rfl (by decide +kernel) ⟨Nat.le_of_ble_eq_true rfl, Nat.le_of_ble_eq_true rfl⟩) hM hK hS rfl hl.1 rfl (lv_room (Nat.le_of_ble_eq_true rfl)) dX8_mix_211 ⟨Nat.le_of_ble_eq_true rfl, Nat.le_of_ble_eq_true rfl⟩ (fun r211 V211 H locs hp211 hM hS => ?_)
                    obtain ⟨er211, eV⟩ := hp211
                    rw [eV] at hM; clear eV
                    have q : (r211 : Int32) = rt x3_143 2 := er211
                    refine lv_eqi q ?_
                    refine lv_iload_n hx hb dX8_mix_214 rfl (lv_at hl 1 rfl) ?_
                    refine lv_bipush (v := 13) hx hb dX8_mix_215 (by decide) ?_
                    refine w_cSi (As := [.int x3_143, .int 13]) (rest := [.int (rt x3_143 2)]) ⟨hx, hb, hml, hown, hts⟩ (c_X8_turned l x3_143 13) (va_cwS 2 hts gX8_mix_X8_turned rfl rfl rfl (by decide +kernel) ⟨Nat.le_of_ble_eq_true rfl, Nat.le_of_ble_eq_true rfl⟩) hM hK hS rfl hl.1 rfl (lv_room (Nat.le_of_ble_eq_true rfl)) dX8_mix_217 ⟨Nat.le_of_ble_eq_true rfl, Nat.le_of_ble_eq_true rfl⟩ (fun r217 V217 H locs hp217 hM hS => ?_)
                    obtain ⟨er217, eV⟩ := hp217
                    rw [eV] at hM; clear eV
                    have q : (r217 : Int32) = rt x3_143 13 := er217
                    refine lv_eqi q ?_
                    refine lv_ixor hx hb dX8_mix_220 ?_
                    refine lv_iload_n hx hb dX8_mix_221 rfl (lv_at hl 1 rfl) ?_
                    refine lv_bipush (v := 22) hx hb dX8_mix_222 (by decide) ?_
                    refine w_cSi (As := [.int x3_143, .int 22]) (rest := [.int ((rt x3_143 2) ^^^ (rt x3_143 13))]) ⟨hx, hb, hml, hown, hts⟩ (c_X8_turned l x3_143 22) (va_cwS 2 hts gX8_mix_X8_turned rfl rfl rfl (by decide +kernel) ⟨Nat.le_of_ble_eq_true rfl, Nat.le_of_ble_eq_true rfl⟩) hM hK hS rfl hl.1 rfl (lv_room (Nat.le_of_ble_eq_true rfl)) dX8_mix_224 ⟨Nat.le_of_ble_eq_true rfl, Nat.le_of_ble_eq_true rfl⟩ (fun r224 V224 H locs hp224 hM hS => ?_)
                    obtain ⟨er224, eV⟩ := hp224
                    rw [eV] at hM; clear eV
                    have q : (r224 : Int32) = rt x3_143 22 := er224
                    refine lv_eqi q ?_
                    refine lv_ixor hx hb dX8_mix_227 ?_
                    refine lv_iload_n hx hb dX8_mix_228 rfl (lv_at hl 1 rfl) ?_
                    refine lv_aload_n hx hb dX8_mix_229 rfl (lv_at hl 3 rfl) ?_
                    refine w_gr 8 5 585 (T := TX8) (N := 42) hx hb hts in8 hown hK.1 hM (by decide) (by decide) (by decide) (by decide) (by decide) rfl (by decide) k22 rfl dX8_mix_230 ?_
                    refine lv_iconst (v := 1) hx hb dX8_mix_233 (by decide) ?_
                    have i_234 : (1 : Int32) = nI (1) := rfl
                    refine w_ild (N := 8) hx hb hK.1 hM (by decide) (by decide) (by decide) (by rw [i_234]; exact vp_in_nI (by omega) (by omega)) dX8_mix_234 ?_
                    have q : (Vr 585 (1 : Int32).toNatClampNeg : Int32) = Vr 585 1 := by rw [i_234, nI_clamp (by omega)]
                    refine lv_eqi q ?_
                    refine lv_iand hx hb dX8_mix_235 ?_
                    refine lv_iload_n hx hb dX8_mix_236 rfl (lv_at hl 1 rfl) ?_
                    refine lv_aload_n hx hb dX8_mix_237 rfl (lv_at hl 3 rfl) ?_
                    refine w_gr 8 5 585 (T := TX8) (N := 42) hx hb hts in8 hown hK.1 hM (by decide) (by decide) (by decide) (by decide) (by decide) rfl (by decide) k22 rfl dX8_mix_238 ?_
                    refine lv_iconst (v := 2) hx hb dX8_mix_241 (by decide) ?_
                    have i_242 : (2 : Int32) = nI (2) := rfl
                    refine w_ild (N := 8) hx hb hK.1 hM (by decide) (by decide) (by decide) (by rw [i_242]; exact vp_in_nI (by omega) (by omega)) dX8_mix_242 ?_
                    have q : (Vr 585 (2 : Int32).toNatClampNeg : Int32) = Vr 585 2 := by rw [i_242, nI_clamp (by omega)]
                    refine lv_eqi q ?_
                    refine lv_iand hx hb dX8_mix_243 ?_
                    refine lv_ixor hx hb dX8_mix_244 ?_
                    refine lv_aload_n hx hb dX8_mix_245 rfl (lv_at hl 3 rfl) ?_
                    refine w_gr 8 5 585 (T := TX8) (N := 42) hx hb hts in8 hown hK.1 hM (by decide) (by decide) (by decide) (by decide) (by decide) rfl (by decide) k22 rfl dX8_mix_246 ?_
                    refine lv_iconst (v := 1) hx hb dX8_mix_249 (by decide) ?_
                    have i_250 : (1 : Int32) = nI (1) := rfl
                    refine w_ild (N := 8) hx hb hK.1 hM (by decide) (by decide) (by decide) (by rw [i_250]; exact vp_in_nI (by omega) (by omega)) dX8_mix_250 ?_
                    have q : (Vr 585 (1 : Int32).toNatClampNeg : Int32) = Vr 585 1 := by rw [i_250, nI_clamp (by omega)]
                    refine lv_eqi q ?_
                    refine lv_aload_n hx hb dX8_mix_251 rfl (lv_at hl 3 rfl) ?_
                    refine w_gr 8 5 585 (T := TX8) (N := 42) hx hb hts in8 hown hK.1 hM (by decide) (by decide) (by decide) (by decide) (by decide) rfl (by decide) k22 rfl dX8_mix_252 ?_
                    refine lv_iconst (v := 2) hx hb dX8_mix_255 (by decide) ?_
                    have i_256 : (2 : Int32) = nI (2) := rfl
                    refine w_ild (N := 8) hx hb hK.1 hM (by decide) (by decide) (by decide) (by rw [i_256]; exact vp_in_nI (by omega) (by omega)) dX8_mix_256 ?_
                    have q : (Vr 585 (2 : Int32).toNatClampNeg : Int32) = Vr 585 2 := by rw [i_256, nI_clamp (by omega)]
                    refine lv_eqi q ?_
                    refine lv_iand hx hb dX8_mix_257 ?_
                    refine lv_ixor hx hb dX8_mix_258 ?_
                    refine lv_iadd hx hb dX8_mix_259 ?_
                    refine lv_topi (fun x5_260 ex5_260 => ?_)
                    refine lv_istore (lv' := [(5, .int x5_260), (4, .int x4_207), (3, .int x3_143), (2, .int x2_136), (0, .ref (E.1 + 580)), (1, .int (nI r))]) hx hb dX8_mix_260 hl (by decide) rfl (fun ls hl => ?_)
                    have hX : x4_207 = rX (cuT.getD r 0) (Vw 584 r) (rnds (Vw 584) (V 583) r) := by rw [ex4_207, ex2_136, hr 7 (by omega), hr 4 (by omega), hr 5 (by omega), hr 6 (by omega), hfr 582 (by decide), hf 582 (by decide), hA r (by omega), hfr 584 (by decide)]; rfl
                    have hY : x5_260 = rY (rnds (Vw 584) (V 583) r) := by rw [ex5_260, ex3_143, hr 0 (by omega), hr 1 (by omega), hr 2 (by omega)]; rfl
                    refine lv_bipush (v := 7) hx hb dX8_mix_262 (by decide) ?_
                    refine lv_istore (lv' := [(6, .int 7), (5, .int x5_260), (4, .int x4_207), (3, .int x3_143), (2, .int x2_136), (0, .ref (E.1 + 580)), (1, .int (nI r))]) hx hb dX8_mix_264 hl (by decide) rfl (fun ls hl => ?_)
                    have loop266 : ∀ (fu : Nat) (Vs : Vt) (H : Heap) (locs : List Loc) (ls : Array Slot) (qq : Nat) (hq : qq ≤ 7) (hs1 : ∀ i, qq < i → i < 8 → Vs 585 i = Vr 585 (i - 1)) (hs2 : ∀ i, i ≤ qq → Vs 585 i = Vr 585 i) (hfs : ∀ k, k ≠ 585 → Vs k = Vr k), qq < fu → Wd E Vs H → va_S (AE E) s.heap H locs → lv_has ls 7 [(0, .ref (E.1 + 580)), (1, .int (nI r)), (4, .int x4_207), (5, .int x5_260), (6, .int (nI qq))] → W p l e (headSpec wsX8_mix (rmD 1)).room s m ([.ref (E.1 + 580)] : List Value).toArray below meth c H locs 0 0 (MQ below (QV E (fun V' => Wd E V') (fun V' => (∀ i, i < 8 → V' 583 i = shaB (V 583) (V 584) i) ∧ ∀ k, k ≠ 583 → k ≠ 584 → k ≠ 585 → V' k = V k)) ([.ref (E.1 + 580)] : List Value).toArray s 0 0 (AE E)) (F0 m 266 ls []) := by
                      intro fu
                      induction fu with
                      | zero => intros; omega
                      | succ fu ih266 =>
                        intro Vs H locs ls qq hq hs1 hs2 hfs hfu hM hS hl
                        refine lv_iload hx hb dX8_mix_266 (lv_at hl 4 rfl) ?_
                        refine lv_if_le (tgt := 293) hx hb dX8_mix_268 (by decide) (fun c_268 => ?_) (fun c_268 => ?_)
                        · have n_268 : qq ≤ 0 := (nLe (a := qq) (b := 0) rfl rfl (by omega) (by omega)).mp c_268
                          have hs0 : ∀ i, 0 < i → i < 8 → Vs 585 i = Vr 585 (i - 1) := fun i a b => hs1 i (by omega) b
                          refine lv_aload_n hx hb dX8_mix_293 rfl (lv_at hl 0 rfl) ?_
                          refine w_gr 8 5 585 (T := TX8) (N := 42) hx hb hts in8 hown hK.1 hM (by decide) (by decide) (by decide) (by decide) (by decide) rfl (by decide) k22 rfl dX8_mix_294 ?_
                          refine lv_iconst (v := 4) hx hb dX8_mix_297 (by decide) ?_
                          refine lv_dup2_11 hx hb dX8_mix_298 rfl rfl ?_
                          have i_299 : (4 : Int32) = nI (4) := rfl
                          refine w_ild (N := 8) hx hb hK.1 hM (by decide) (by decide) (by decide) (by rw [i_299]; exact vp_in_nI (by omega) (by omega)) dX8_mix_299 ?_
                          have q : (Vs 585 (4 : Int32).toNatClampNeg : Int32) = Vs 585 4 := by rw [i_299, nI_clamp (by omega)]
                          refine lv_eqi q ?_
                          refine lv_iload hx hb dX8_mix_300 (lv_at hl 2 rfl) ?_
                          refine lv_iadd hx hb dX8_mix_302 ?_
                          have i_303 : (4 : Int32) = nI (4) := rfl
                          have j_303 : (4 : Int32).toNatClampNeg = 4 := by rw [i_303, nI_clamp (by omega)]
                          refine w_ist (N := 8) hx hb hK.1 hM hS (by decide) (by decide) (by decide) (by rw [i_303]; exact vp_in_nI (by omega) (by omega)) dX8_mix_303 (fun H locs hM hS => ?_)
                          rw [j_303] at hM
                          generalize hV303 : up2 Vs 585 4 ((Vs 585 4) + x4_207) = V303 at hM
                          refine lv_aload_n hx hb dX8_mix_304 rfl (lv_at hl 0 rfl) ?_
                          refine w_gr 8 5 585 (T := TX8) (N := 42) hx hb hts in8 hown hK.1 hM (by decide) (by decide) (by decide) (by decide) (by decide) rfl (by decide) k22 rfl dX8_mix_305 ?_
                          refine lv_iconst (v := 0) hx hb dX8_mix_308 (by decide) ?_
                          refine lv_iload hx hb dX8_mix_309 (lv_at hl 2 rfl) ?_
                          refine lv_iload hx hb dX8_mix_311 (lv_at hl 3 rfl) ?_
                          refine lv_iadd hx hb dX8_mix_313 ?_
                          have i_314 : (0 : Int32) = nI (0) := rfl
                          have j_314 : (0 : Int32).toNatClampNeg = 0 := by rw [i_314, nI_clamp (by omega)]
                          refine w_ist (N := 8) hx hb hK.1 hM hS (by decide) (by decide) (by decide) (by rw [i_314]; exact vp_in_nI (by omega) (by omega)) dX8_mix_314 (fun H locs hM hS => ?_)
                          rw [j_314] at hM
                          generalize hV314 : up2 V303 585 0 (x4_207 + x5_260) = V314 at hM
                          obtain ⟨x1_315, ex1_315⟩ : ∃ y : Int32, y = (nI r) + 1 := ⟨_, rfl⟩
                          refine lv_iinc (v := x1_315) (lv' := [(1, .int x1_315), (0, .ref (E.1 + 580)), (4, .int x4_207), (5, .int x5_260), (6, .int (nI qq))]) hx hb dX8_mix_315 hl (k := 1) rfl (by rw [ex1_315]; rfl) (by decide) rfl (fun ls hl => ?_)
                          refine lv_goto (tgt := 124) hx hb dX8_mix_318 (by decide) ?_
                          rw [show x1_315 = nI (r + 1) from (ex1_315.trans (nAdd rfl rfl))] at hl
                          exact ih124 V314 _ _ _ (r + 1) (by omega) (mix_rnd hr hs0 hV303 hV314 hX hY) (fun k hk => by subst hV314; subst hV303; rw [up2_k _ _ hk, up2_k _ _ hk, hfs k hk]; exact hfr k hk) (by omega) hM hS (lv_sub hl [1, 0] rfl)
                        · have n_268 : ¬ qq ≤ 0 := fun q9 => c_268 ((nLe (a := qq) (b := 0) rfl rfl (by omega) (by omega)).mpr q9)
                          refine lv_aload_n hx hb dX8_mix_271 rfl (lv_at hl 0 rfl) ?_
                          refine w_gr 8 5 585 (T := TX8) (N := 42) hx hb hts in8 hown hK.1 hM (by decide) (by decide) (by decide) (by decide) (by decide) rfl (by decide) k22 rfl dX8_mix_272 ?_
                          refine lv_iload hx hb dX8_mix_275 (lv_at hl 4 rfl) ?_
                          refine lv_aload_n hx hb dX8_mix_277 rfl (lv_at hl 0 rfl) ?_
                          refine w_gr 8 5 585 (T := TX8) (N := 42) hx hb hts in8 hown hK.1 hM (by decide) (by decide) (by decide) (by decide) (by decide) rfl (by decide) k22 rfl dX8_mix_278 ?_
                          refine lv_iload hx hb dX8_mix_281 (lv_at hl 4 rfl) ?_
                          refine lv_iconst (v := 1) hx hb dX8_mix_283 (by decide) ?_
                          refine lv_isub hx hb dX8_mix_284 ?_
                          have i_285 : ((nI qq) - 1 : Int32) = nI (qq - 1) := (nSub rfl rfl (by omega))
                          refine w_ild (N := 8) hx hb hK.1 hM (by decide) (by decide) (by decide) (by rw [i_285]; exact vp_in_nI (by omega) (by omega)) dX8_mix_285 ?_
                          have q : (Vs 585 ((nI qq) - 1).toNatClampNeg : Int32) = Vs 585 (qq - 1) := by rw [i_285, nI_clamp (by omega)]
                          refine lv_eqi q ?_
                          have i_286 : (nI qq : Int32) = nI (qq) := rfl
                          have j_286 : (nI qq).toNatClampNeg = qq := by rw [i_286, nI_clamp (by omega)]
                          refine w_ist (N := 8) hx hb hK.1 hM hS (by decide) (by decide) (by decide) (by rw [i_286]; exact vp_in_nI (by omega) (by omega)) dX8_mix_286 (fun H locs hM hS => ?_)
                          rw [j_286] at hM
                          generalize hV286 : up2 Vs 585 qq (Vs 585 (qq - 1)) = V286 at hM
                          obtain ⟨x6_287, ex6_287⟩ : ∃ y : Int32, y = (nI qq) + (-1) := ⟨_, rfl⟩
                          refine lv_iinc (v := x6_287) (lv' := [(6, .int x6_287), (0, .ref (E.1 + 580)), (1, .int (nI r)), (4, .int x4_207), (5, .int x5_260)]) hx hb dX8_mix_287 hl (k := 4) rfl (by rw [ex6_287]; rfl) (by decide) rfl (fun ls hl => ?_)
                          refine lv_goto (tgt := 266) hx hb dX8_mix_290 (by decide) ?_
                          rw [show x6_287 = nI (qq - 1) from (ex6_287.trans (nDec rfl rfl (by omega)))] at hl
                          exact ih266 V286 _ _ _ (qq - 1) (by omega) (fun i a b => by subst hV286; by_cases e : i = qq; (subst e; rw [up2_s]; exact hs2 _ (by omega)); (rw [up2_o _ _ e]; exact hs1 i (by omega) b)) (fun i a => by subst hV286; rw [up2_o _ _ (by omega)]; exact hs2 i (by omega)) (fun k hk => by subst hV286; rw [up2_k _ _ hk]; exact hfs k hk) (by omega) hM hS (lv_sub hl [1, 2, 3, 4, 0] rfl)
                    exact loop266 _ Vr _ _ _ 7 (Nat.le_refl _) (fun i a b => absurd a (by omega)) (fun _ _ => rfl) (fun _ _ => rfl) (Nat.lt_succ_self _) hM hS (lv_sub hl [5, 6, 2, 1, 0] rfl)
              exact loop124 _ Vc _ _ _ 0 (Nat.zero_le _) (fun i hi => by have := hc.1 i (by omega); rwa [Nat.zero_add] at this) (fun k hk => hc.2.2 k hk) (Nat.lt_succ_self _) hM hS (lv_sub hl [1, 0] rfl)
            · have n_101 : ¬ 8 ≤ j := fun q9 => c_101 ((nLe (a := 8) (b := j) rfl rfl (by omega) (by omega)).mpr q9)
              refine lv_aload_n hx hb dX8_mix_104 rfl (lv_at hl 0 rfl) ?_
              refine w_gr 8 5 585 (T := TX8) (N := 42) hx hb hts in8 hown hK.1 hM (by decide) (by decide) (by decide) (by decide) (by decide) rfl (by decide) k22 rfl dX8_mix_105 ?_
              refine lv_iload_n hx hb dX8_mix_108 rfl (lv_at hl 1 rfl) ?_
              refine lv_aload_n hx hb dX8_mix_109 rfl (lv_at hl 0 rfl) ?_
              refine w_gr 8 3 583 (T := TX8) (N := 42) hx hb hts in8 hown hK.1 hM (by decide) (by decide) (by decide) (by decide) (by decide) rfl (by decide) k16 rfl dX8_mix_110 ?_
              refine lv_iload_n hx hb dX8_mix_113 rfl (lv_at hl 1 rfl) ?_
              have i_114 : (nI j : Int32) = nI (j) := rfl
              refine w_ild (N := 8) hx hb hK.1 hM (by decide) (by decide) (by decide) (by rw [i_114]; exact vp_in_nI (by omega) (by omega)) dX8_mix_114 ?_
              have q : (Vc 583 (nI j).toNatClampNeg : Int32) = Vc 583 j := by rw [i_114, nI_clamp (by omega)]
              refine lv_eqi q ?_
              have i_115 : (nI j : Int32) = nI (j) := rfl
              have j_115 : (nI j).toNatClampNeg = j := by rw [i_115, nI_clamp (by omega)]
              refine w_ist (N := 8) hx hb hK.1 hM hS (by decide) (by decide) (by decide) (by rw [i_115]; exact vp_in_nI (by omega) (by omega)) dX8_mix_115 (fun H locs hM hS => ?_)
              rw [j_115] at hM
              generalize hV115 : up2 Vc 585 j (Vc 583 j) = V115 at hM
              obtain ⟨x1_116, ex1_116⟩ : ∃ y : Int32, y = (nI j) + 1 := ⟨_, rfl⟩
              refine lv_iinc (v := x1_116) (lv' := [(1, .int x1_116), (0, .ref (E.1 + 580))]) hx hb dX8_mix_116 hl (k := 1) rfl (by rw [ex1_116]; rfl) (by decide) rfl (fun ls hl => ?_)
              refine lv_goto (tgt := 98) hx hb dX8_mix_119 (by decide) ?_
              rw [show x1_116 = nI (j + 1) from (ex1_116.trans (nAdd rfl rfl))] at hl
              exact ih98 V115 _ _ _ (j + 1) (by omega) (hc.s hV115 (by omega) (by rw [hc.2.2 583 (by decide), hf 583 (by decide)])) (by omega) hM hS (lv_sub hl [1, 0] rfl)
        exact loop98 _ Vw _ _ _ 0 (Nat.zero_le _) (cpx.z _ _ _ _) (Nat.lt_succ_self _) hM hS (lv_sub hl [1, 0] rfl)
      · have n_6 : ¬ 64 ≤ (16 + n) := fun q9 => c_6 ((nLe (a := 64) (b := (16 + n)) rfl rfl (by omega) (by omega)).mpr q9)
        refine lv_aload_n hx hb dX8_mix_9 rfl (lv_at hl 0 rfl) ?_
        refine w_gr 8 4 584 (T := TX8) (N := 42) hx hb hts in8 hown hK.1 hM (by decide) (by decide) (by decide) (by decide) (by decide) rfl (by decide) k19 rfl dX8_mix_10 ?_
        refine lv_iload_n hx hb dX8_mix_13 rfl (lv_at hl 1 rfl) ?_
        refine lv_bipush (v := 15) hx hb dX8_mix_14 (by decide) ?_
        refine lv_isub hx hb dX8_mix_16 ?_
        have i_17 : ((nI (16 + n)) - 15 : Int32) = nI ((16 + n) - 15) := (nSub rfl rfl (by omega))
        refine w_ild (N := 64) hx hb hK.1 hM (by decide) (by decide) (by decide) (by rw [i_17]; exact vp_in_nI (by omega) (by omega)) dX8_mix_17 ?_
        have q : (Vw 584 ((nI (16 + n)) - 15).toNatClampNeg : Int32) = Vw 584 ((16 + n) - 15) := by rw [i_17, nI_clamp (by omega)]
        refine lv_eqi q ?_
        refine lv_topi (fun x2_18 ex2_18 => ?_)
        refine lv_istore_n (lv' := [(2, .int x2_18), (0, .ref (E.1 + 580)), (1, .int (nI (16 + n)))]) hx hb dX8_mix_18 rfl hl (by decide) rfl (fun ls hl => ?_)
        refine lv_aload_n hx hb dX8_mix_19 rfl (lv_at hl 1 rfl) ?_
        refine w_gr 8 4 584 (T := TX8) (N := 42) hx hb hts in8 hown hK.1 hM (by decide) (by decide) (by decide) (by decide) (by decide) rfl (by decide) k19 rfl dX8_mix_20 ?_
        refine lv_iload_n hx hb dX8_mix_23 rfl (lv_at hl 2 rfl) ?_
        refine lv_iconst (v := 2) hx hb dX8_mix_24 (by decide) ?_
        refine lv_isub hx hb dX8_mix_25 ?_
        have i_26 : ((nI (16 + n)) - 2 : Int32) = nI ((16 + n) - 2) := (nSub rfl rfl (by omega))
        refine w_ild (N := 64) hx hb hK.1 hM (by decide) (by decide) (by decide) (by rw [i_26]; exact vp_in_nI (by omega) (by omega)) dX8_mix_26 ?_
        have q : (Vw 584 ((nI (16 + n)) - 2).toNatClampNeg : Int32) = Vw 584 ((16 + n) - 2) := by rw [i_26, nI_clamp (by omega)]
        refine lv_eqi q ?_
        refine lv_topi (fun x3_27 ex3_27 => ?_)
        refine lv_istore_n (lv' := [(3, .int x3_27), (2, .int x2_18), (0, .ref (E.1 + 580)), (1, .int (nI (16 + n)))]) hx hb dX8_mix_27 rfl hl (by decide) rfl (fun ls hl => ?_)
        refine lv_aload_n hx hb dX8_mix_28 rfl (lv_at hl 2 rfl) ?_
        refine w_gr 8 4 584 (T := TX8) (N := 42) hx hb hts in8 hown hK.1 hM (by decide) (by decide) (by decide) (by decide) (by decide) rfl (by decide) k19 rfl dX8_mix_29 ?_
        refine lv_iload_n hx hb dX8_mix_32 rfl (lv_at hl 3 rfl) ?_
        refine lv_aload_n hx hb dX8_mix_33 rfl (lv_at hl 2 rfl) ?_
        refine w_gr 8 4 584 (T := TX8) (N := 42) hx hb hts in8 hown hK.1 hM (by decide) (by decide) (by decide) (by decide) (by decide) rfl (by decide) k19 rfl dX8_mix_34 ?_
        refine lv_iload_n hx hb dX8_mix_37 rfl (lv_at hl 3 rfl) ?_
        refine lv_bipush (v := 16) hx hb dX8_mix_38 (by decide) ?_
        refine lv_isub hx hb dX8_mix_40 ?_
        have i_41 : ((nI (16 + n)) - 16 : Int32) = nI ((16 + n) - 16) := (nSub rfl rfl (by omega))
        refine w_ild (N := 64) hx hb hK.1 hM (by decide) (by decide) (by decide) (by rw [i_41]; exact vp_in_nI (by omega) (by omega)) dX8_mix_41 ?_
        have q : (Vw 584 ((nI (16 + n)) - 16).toNatClampNeg : Int32) = Vw 584 ((16 + n) - 16) := by rw [i_41, nI_clamp (by omega)]
        refine lv_eqi q ?_
        refine lv_iload_n hx hb dX8_mix_42 rfl (lv_at hl 1 rfl) ?_
        refine lv_bipush (v := 7) hx hb dX8_mix_43 (by decide) ?_
        refine w_cSi (As := [.int x2_18, .int 7]) (rest := [.int (Vw 584 ((16 + n) - 16)), .int (nI (16 + n)), .ref (E.1 + 584)]) ⟨hx, hb, hml, hown, hts⟩ (c_X8_turned l x2_18 7) (va_cwS 2 hts gX8_mix_X8_turned rfl rfl rfl (by decide +kernel) ⟨Nat.le_of_ble_eq_true rfl, Nat.le_of_ble_eq_true rfl⟩) hM hK hS rfl hl.1 rfl (lv_room (Nat.le_of_ble_eq_true rfl)) dX8_mix_45 ⟨Nat.le_of_ble_eq_true rfl, Nat.le_of_ble_eq_true rfl⟩ (fun r45 V45 H locs hp45 hM hS => ?_)
        obtain ⟨er45, eV⟩ := hp45
        rw [eV] at hM; clear eV
        have q : (r45 : Int32) = rt x2_18 7 := er45
        refine lv_eqi q ?_
        refine lv_iload_n hx hb dX8_mix_48 rfl (lv_at hl 1 rfl) ?_
        refine lv_bipush (v := 18) hx hb dX8_mix_49 (by decide) ?_
        refine w_cSi (As := [.int x2_18, .int 18]) (rest := [.int (rt x2_18 7), .int (Vw 584 ((16 + n) - 16)), .int (nI (16 + n)), .ref (E.1 + 584)]) ⟨hx, hb, hml, hown, hts⟩ (c_X8_turned l x2_18 18) (va_cwS 2 hts gX8_mix_X8_turned rfl rfl rfl (by decide +kernel) ⟨Nat.le_of_ble_eq_true rfl, Nat.le_of_ble_eq_true rfl⟩) hM hK hS rfl hl.1 rfl (lv_room (Nat.le_of_ble_eq_true rfl)) dX8_mix_51 ⟨Nat.le_of_ble_eq_true rfl, Nat.le_of_ble_eq_true rfl⟩ (fun r51 V51 H locs hp51 hM hS => ?_)
        obtain ⟨er51, eV⟩ := hp51
        rw [eV] at hM; clear eV
        have q : (r51 : Int32) = rt x2_18 18 := er51
        refine lv_eqi q ?_
        refine lv_ixor hx hb dX8_mix_54 ?_
        refine lv_iload_n hx hb dX8_mix_55 rfl (lv_at hl 1 rfl) ?_
        refine lv_iconst (v := 3) hx hb dX8_mix_56 (by decide) ?_
        refine lv_iushr hx hb dX8_mix_57 rfl ?_
        refine lv_ixor hx hb dX8_mix_58 ?_
        refine lv_iadd hx hb dX8_mix_59 ?_
        refine lv_aload_n hx hb dX8_mix_60 rfl (lv_at hl 2 rfl) ?_
        refine w_gr 8 4 584 (T := TX8) (N := 42) hx hb hts in8 hown hK.1 hM (by decide) (by decide) (by decide) (by decide) (by decide) rfl (by decide) k19 rfl dX8_mix_61 ?_
        refine lv_iload_n hx hb dX8_mix_64 rfl (lv_at hl 3 rfl) ?_
        refine lv_bipush (v := 7) hx hb dX8_mix_65 (by decide) ?_
        refine lv_isub hx hb dX8_mix_67 ?_
        have i_68 : ((nI (16 + n)) - 7 : Int32) = nI ((16 + n) - 7) := (nSub rfl rfl (by omega))
        refine w_ild (N := 64) hx hb hK.1 hM (by decide) (by decide) (by decide) (by rw [i_68]; exact vp_in_nI (by omega) (by omega)) dX8_mix_68 ?_
        have q : (Vw 584 ((nI (16 + n)) - 7).toNatClampNeg : Int32) = Vw 584 ((16 + n) - 7) := by rw [i_68, nI_clamp (by omega)]
        refine lv_eqi q ?_
        refine lv_iadd hx hb dX8_mix_69 ?_
        refine lv_iload_n hx hb dX8_mix_70 rfl (lv_at hl 0 rfl) ?_
        refine lv_bipush (v := 17) hx hb dX8_mix_71 (by decide) ?_
        refine w_cSi (As := [.int x3_27, .int 17]) (rest := [.int (((Vw 584 ((16 + n) - 16)) + (((rt x2_18 7) ^^^ (rt x2_18 18)) ^^^ ((x2_18.toUInt32 >>> ((3 : Int32).toUInt32 &&& Int32.toUInt32 31)).toInt32))) + (Vw 584 ((16 + n) - 7))), .int (nI (16 + n)), .ref (E.1 + 584)]) ⟨hx, hb, hml, hown, hts⟩ (c_X8_turned l x3_27 17) (va_cwS 2 hts gX8_mix_X8_turned rfl rfl rfl (by decide +kernel) ⟨Nat.le_of_ble_eq_true rfl, Nat.le_of_ble_eq_true rfl⟩) hM hK hS rfl hl.1 rfl (lv_room (Nat.le_of_ble_eq_true rfl)) dX8_mix_73 ⟨Nat.le_of_ble_eq_true rfl, Nat.le_of_ble_eq_true rfl⟩ (fun r73 V73 H locs hp73 hM hS => ?_)
        obtain ⟨er73, eV⟩ := hp73
        rw [eV] at hM; clear eV
        have q : (r73 : Int32) = rt x3_27 17 := er73
        refine lv_eqi q ?_
        refine lv_iload_n hx hb dX8_mix_76 rfl (lv_at hl 0 rfl) ?_
        refine lv_bipush (v := 19) hx hb dX8_mix_77 (by decide) ?_
        refine w_cSi (As := [.int x3_27, .int 19]) (rest := [.int (rt x3_27 17), .int (((Vw 584 ((16 + n) - 16)) + (((rt x2_18 7) ^^^ (rt x2_18 18)) ^^^ ((x2_18.toUInt32 >>> ((3 : Int32).toUInt32 &&& Int32.toUInt32 31)).toInt32))) + (Vw 584 ((16 + n) - 7))), .int (nI (16 + n)), .ref (E.1 + 584)]) ⟨hx, hb, hml, hown, hts⟩ (c_X8_turned l x3_27 19) (va_cwS 2 hts gX8_mix_X8_turned rfl rfl rfl (by decide +kernel) ⟨Nat.le_of_ble_eq_true rfl, Nat.le_of_ble_eq_true rfl⟩) hM hK hS rfl hl.1 rfl (lv_room (Nat.le_of_ble_eq_true rfl)) dX8_mix_79 ⟨Nat.le_of_ble_eq_true rfl, Nat.le_of_ble_eq_true rfl⟩ (fun r79 V79 H locs hp79 hM hS => ?_)
        obtain ⟨er79, eV⟩ := hp79
        rw [eV] at hM; clear eV
        have q : (r79 : Int32) = rt x3_27 19 := er79
        refine lv_eqi q ?_
        refine lv_ixor hx hb dX8_mix_82 ?_
        refine lv_iload_n hx hb dX8_mix_83 rfl (lv_at hl 0 rfl) ?_
        refine lv_bipush (v := 10) hx hb dX8_mix_84 (by decide) ?_
        refine lv_iushr hx hb dX8_mix_86 rfl ?_
        refine lv_ixor hx hb dX8_mix_87 ?_
        refine lv_iadd hx hb dX8_mix_88 ?_
        have i_89 : (nI (16 + n) : Int32) = nI (16 + n) := rfl
        have j_89 : (nI (16 + n)).toNatClampNeg = 16 + n := by rw [i_89, nI_clamp (by omega)]
        refine w_ist (N := 64) hx hb hK.1 hM hS (by decide) (by decide) (by decide) (by rw [i_89]; exact vp_in_nI (by omega) (by omega)) dX8_mix_89 (fun H locs hM hS => ?_)
        rw [j_89] at hM
        generalize hV89 : up2 Vw 584 (16 + n) ((((Vw 584 ((16 + n) - 16)) + (((rt x2_18 7) ^^^ (rt x2_18 18)) ^^^ ((x2_18.toUInt32 >>> ((3 : Int32).toUInt32 &&& Int32.toUInt32 31)).toInt32))) + (Vw 584 ((16 + n) - 7))) + (((rt x3_27 17) ^^^ (rt x3_27 19)) ^^^ ((x3_27.toUInt32 >>> ((10 : Int32).toUInt32 &&& Int32.toUInt32 31)).toInt32))) = V89 at hM
        have hz2 : ∀ t, t < 16 + (n + 1) → V89 584 t = sched (V 584) (n + 1) t := by
          subst hV89
          intro t ht
          show _ = upd (sched (V 584) n) (16 + n) _ t
          by_cases e : t = 16 + n
          · subst e
            rw [up2_s, pk_us, ex2_18, ex3_27, hz _ (by omega), hz _ (by omega), hz _ (by omega), hz _ (by omega)]
            rfl
          · rw [up2_o _ _ e, pk_un e]
            exact hz t (by omega)
        obtain ⟨x1_90, ex1_90⟩ : ∃ y : Int32, y = (nI (16 + n)) + 1 := ⟨_, rfl⟩
        refine lv_iinc (v := x1_90) (lv' := [(1, .int x1_90), (3, .int x3_27), (2, .int x2_18), (0, .ref (E.1 + 580))]) hx hb dX8_mix_90 hl (k := 3) rfl (by rw [ex1_90]; rfl) (by decide) rfl (fun ls hl => ?_)
        refine lv_goto (tgt := 3) hx hb dX8_mix_93 (by decide) ?_
        rw [show x1_90 = nI ((16 + n) + 1) from (ex1_90.trans (nAdd rfl rfl))] at hl
        exact ih3 V89 _ _ _ (n + 1) (by omega) hz2 (fun k hk => by subst hV89; rw [up2_k _ _ hk]; exact hf k hk) (by omega) hM hS (lv_sub hl [3, 0] rfl)
  exact loop3 _ V _ _ _ 0 (Nat.zero_le _) (fun t _ => rfl) (fun _ _ => rfl) (Nat.lt_succ_self _) hM hS (lv_sub hl [1, 0] rfl)
