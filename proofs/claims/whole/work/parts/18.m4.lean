section M4
set_option maxRecDepth 100000 in
set_option maxHeartbeats 4000000 in
theorem mX6_isBlock (l : Launch) (D : va_G) (κ : Nat → ClassId) (Ad : Nat → Nat) (eo : Int32) (ip : Nat → Int32) (v nw aw od sv ot : Nat → Nat) (M : Nat) (x : Int32) (hB : Bd M nw) : mM l yX6_isBlock wsX6_isBlock { frames := 1, cells := 0, slots := 0, locals := 22 } D κ Ad [.int (x)] eo ip v nw aw od sv ot (some (.int (nI (isB (nw 1) x).toNat))) eo ip v nw aw od sv ot := by
  refine zM_of (cc := cX6_isBlock) (maxL := 2) (rt := (some .boolean)) [(0, .ref (Ad 0)), (1, .int (x))] (by decide +kernel) rfl (Nat.le_of_ble_eq_true rfl) rfl ?_
  intro p e s m args below meth c A C hr hk hnm
  have C : zC p s m args c cX6_isBlock 2 wsX6_isBlock RX6 D (zTy κ) A := C
  have hin : ∀ w ∈ wsX60, w ∈ wsX6_isBlock := fun w h => List.mem_cons_of_mem _ (List.mem_append_right _ h)
  have k13 : Cond.fieldLink RX6 13 "PeatRailwayModel" "now" "[I" ∈ wsX6_isBlock := by decide +kernel
  obtain ⟨hM1, hM2, ht0, hnb, hnt, hj, hp⟩ := id hB
  refine z_iload_n C dX6_isBlock_0 1 rfl ?_
  refine z_iconst (v := nI 0) C dX6_isBlock_1 (by decide) ?_
  refine z_aload_n C dX6_isBlock_2 0 rfl ?_
  refine zm_get_now C hin k13 dX6_isBlock_3 ?_
  refine z_iconst (v := nI 1) C dX6_isBlock_6 (by decide) ?_
  refine zm_ald_now C (by omega) dX6_isBlock_7 ?_
  refine z_iconst (v := nI 1) C dX6_isBlock_8 (by decide) ?_
  refine z_isub C dX6_isBlock_9 ?_
  refine zs_call C (mX6_in l D κ (x) (nI 0) ((nI (nw 1) - nI 1))) gX6_isBlock_X6_in rfl rfl rfl hdX6_in ⟨Nat.le_of_ble_eq_true rfl, Nat.le_of_ble_eq_true rfl⟩ rfl (Nat.le_of_ble_eq_true rfl) dX6_isBlock_10 ⟨Nat.zero_le _, Nat.zero_le _⟩ ?_
  exact z_zret C hr hk (zb_nar _) () (rfl) trivial (List.Perm.of_eq rfl) dX6_isBlock_13 (Nat.le_refl _) (Nat.le_refl _)
theorem hdX6_isBlock : yX6_isBlock.cls = RX6 ∧ yX6_isBlock.cls ≠ "java/lang/invoke/MethodHandle" ∧ yX6_isBlock.cls ≠ "java/lang/invoke/VarHandle" ∧ (parseMethodDescriptor yX6_isBlock.desc).map (fun d => d.parameters.length) = some 1 := by decide +kernel
set_option maxRecDepth 100000 in
set_option maxHeartbeats 4000000 in
theorem mX6_isTrain (l : Launch) (D : va_G) (κ : Nat → ClassId) (Ad : Nat → Nat) (eo : Int32) (ip : Nat → Int32) (v nw aw od sv ot : Nat → Nat) (M : Nat) (x : Int32) (hB : Bd M nw) : mM l yX6_isTrain wsX6_isTrain { frames := 1, cells := 0, slots := 0, locals := 22 } D κ Ad [.int (x)] eo ip v nw aw od sv ot (some (.int (nI (isB (nw 2) x).toNat))) eo ip v nw aw od sv ot := by
  refine zM_of (cc := cX6_isTrain) (maxL := 2) (rt := (some .boolean)) [(0, .ref (Ad 0)), (1, .int (x))] (by decide +kernel) rfl (Nat.le_of_ble_eq_true rfl) rfl ?_
  intro p e s m args below meth c A C hr hk hnm
  have C : zC p s m args c cX6_isTrain 2 wsX6_isTrain RX6 D (zTy κ) A := C
  have hin : ∀ w ∈ wsX60, w ∈ wsX6_isTrain := fun w h => List.mem_cons_of_mem _ (List.mem_append_right _ h)
  have k13 : Cond.fieldLink RX6 13 "PeatRailwayModel" "now" "[I" ∈ wsX6_isTrain := by decide +kernel
  obtain ⟨hM1, hM2, ht0, hnb, hnt, hj, hp⟩ := id hB
  refine z_iload_n C dX6_isTrain_0 1 rfl ?_
  refine z_iconst (v := nI 0) C dX6_isTrain_1 (by decide) ?_
  refine z_aload_n C dX6_isTrain_2 0 rfl ?_
  refine zm_get_now C hin k13 dX6_isTrain_3 ?_
  refine z_iconst (v := nI 2) C dX6_isTrain_6 (by decide) ?_
  refine zm_ald_now C (by omega) dX6_isTrain_7 ?_
  refine z_iconst (v := nI 1) C dX6_isTrain_8 (by decide) ?_
  refine z_isub C dX6_isTrain_9 ?_
  refine zs_call C (mX6_in l D κ (x) (nI 0) ((nI (nw 2) - nI 1))) gX6_isTrain_X6_in rfl rfl rfl hdX6_in ⟨Nat.le_of_ble_eq_true rfl, Nat.le_of_ble_eq_true rfl⟩ rfl (Nat.le_of_ble_eq_true rfl) dX6_isTrain_10 ⟨Nat.zero_le _, Nat.zero_le _⟩ ?_
  exact z_zret C hr hk (zb_nar _) () (rfl) trivial (List.Perm.of_eq rfl) dX6_isTrain_13 (Nat.le_refl _) (Nat.le_refl _)
theorem hdX6_isTrain : yX6_isTrain.cls = RX6 ∧ yX6_isTrain.cls ≠ "java/lang/invoke/MethodHandle" ∧ yX6_isTrain.cls ≠ "java/lang/invoke/VarHandle" ∧ (parseMethodDescriptor yX6_isTrain.desc).map (fun d => d.parameters.length) = some 1 := by decide +kernel
theorem mX6_isBlock_k (l : Launch) (D : va_G) (κ : Nat → ClassId) (Ad : Nat → Nat) (eo : Int32) (ip : Nat → Int32) (v nw aw od sv ot : Nat → Nat) (M : Nat) (k : Nat) (hB : Bd M nw) (hk : k < nw 1) : mM l yX6_isBlock wsX6_isBlock { frames := 1, cells := 0, slots := 0, locals := 22 } D κ Ad [.int (nI k)] eo ip v nw aw od sv ot (some (.int (nI (true).toNat))) eo ip v nw aw od sv ot := by
  have h := mX6_isBlock l D κ Ad eo ip v nw aw od sv ot M (nI k) hB
  rw [isB_k (by have := hB.2.2.2.1; have := hB.2.2.2.2.1; omega) hk] at h
  exact h
theorem mX6_isBlock_no (l : Launch) (D : va_G) (κ : Nat → ClassId) (Ad : Nat → Nat) (eo : Int32) (ip : Nat → Int32) (v nw aw od sv ot : Nat → Nat) (M : Nat) (x : Int32) (hB : Bd M nw) (hx : isB (nw 1) x = false) : mM l yX6_isBlock wsX6_isBlock { frames := 1, cells := 0, slots := 0, locals := 22 } D κ Ad [.int x] eo ip v nw aw od sv ot (some (.int (nI (false).toNat))) eo ip v nw aw od sv ot := by
  have h := mX6_isBlock l D κ Ad eo ip v nw aw od sv ot M x hB
  rw [hx] at h
  exact h
theorem mX6_isTrain_k (l : Launch) (D : va_G) (κ : Nat → ClassId) (Ad : Nat → Nat) (eo : Int32) (ip : Nat → Int32) (v nw aw od sv ot : Nat → Nat) (M : Nat) (k : Nat) (hB : Bd M nw) (hk : k < nw 2) : mM l yX6_isTrain wsX6_isTrain { frames := 1, cells := 0, slots := 0, locals := 22 } D κ Ad [.int (nI k)] eo ip v nw aw od sv ot (some (.int (nI (true).toNat))) eo ip v nw aw od sv ot := by
  have h := mX6_isTrain l D κ Ad eo ip v nw aw od sv ot M (nI k) hB
  rw [isB_k (by have := hB.2.2.2.1; have := hB.2.2.2.2.1; omega) hk] at h
  exact h
theorem mX6_isTrain_no (l : Launch) (D : va_G) (κ : Nat → ClassId) (Ad : Nat → Nat) (eo : Int32) (ip : Nat → Int32) (v nw aw od sv ot : Nat → Nat) (M : Nat) (x : Int32) (hB : Bd M nw) (hx : isB (nw 2) x = false) : mM l yX6_isTrain wsX6_isTrain { frames := 1, cells := 0, slots := 0, locals := 22 } D κ Ad [.int x] eo ip v nw aw od sv ot (some (.int (nI (false).toNat))) eo ip v nw aw od sv ot := by
  have h := mX6_isTrain l D κ Ad eo ip v nw aw od sv ot M x hB
  rw [hx] at h
  exact h
set_option maxRecDepth 100000 in
set_option maxHeartbeats 4000000 in
theorem mX6_clearSignals (l : Launch) (D : va_G) (κ : Nat → ClassId) (Ad : Nat → Nat) (eo : Int32) (ip : Nat → Int32) (v nw aw od sv ot : Nat → Nat) (M : Nat)  (hB : Bd M nw) : mM l yX6_clearSignals wsX6_clearSignals { frames := 1, cells := 0, slots := 0, locals := 20 } D κ Ad [] eo ip v nw aw od sv ot (some (.int (nI (sumL (fun k => nw (5 + 6 * k + 4)) (nw 1))))) eo ip v nw aw od sv ot := by
  refine zM_of (cc := cX6_clearSignals) (maxL := 3) (rt := (some .int)) [(0, .ref (Ad 0))] (by decide +kernel) rfl (Nat.le_of_ble_eq_true rfl) rfl ?_
  intro p e s m args below meth c A C hr hk hnm
  have C : zC p s m args c cX6_clearSignals 3 wsX6_clearSignals RX6 D (zTy κ) A := C
  have hin : ∀ w ∈ wsX60, w ∈ wsX6_clearSignals := fun w h => List.mem_cons_of_mem _ (List.mem_append_right _ h)
  have k13 : Cond.fieldLink RX6 13 "PeatRailwayModel" "now" "[I" ∈ wsX6_clearSignals := by decide +kernel
  obtain ⟨hM1, hM2, ht0, hnb, hnt, hj, hp⟩ := id hB
  refine z_iconst (v := nI 0) C dX6_clearSignals_0 (by decide) ?_
  refine z_istore_n C [(1, .int (nI 0)), (0, .ref (Ad 0))] dX6_clearSignals_1 (by decide) rfl ?_
  refine z_iconst (v := nI 0) C dX6_clearSignals_2 (by decide) ?_
  refine z_istore_n C [(2, .int (nI 0)), (1, .int (nI 0)), (0, .ref (Ad 0))] dX6_clearSignals_3 (by decide) rfl ?_
  refine z_lv [2, 1, 0] rfl ?_
  refine z_loop (σ := Nat × Nat) (fun x => MW κ Ad eo ip v nw aw od sv ot) (fun x => [(0, .ref (Ad 0)), (1, .int (nI x.2)), (2, .int (nI x.1))]) (fun x => x.1 ≤ nw 1 ∧ x.2 = sumL (fun i => nw (5 + 6 * i + 4)) x.1) (fun x => nw 1 - x.1) ((0, 0)) (⟨Nat.zero_le _, rfl⟩) rfl rfl ?_
  rintro ⟨k, E⟩ hI4 ih4
  dsimp only at hI4 ih4 ⊢
  obtain ⟨hk1, hk2⟩ := hI4
  refine z_iload_n C dX6_clearSignals_4 2 rfl ?_
  refine z_aload_n C dX6_clearSignals_5 0 rfl ?_
  refine zm_get_now C hin k13 dX6_clearSignals_6 ?_
  refine z_iconst (v := nI 1) C dX6_clearSignals_9 (by decide) ?_
  refine zm_ald_now C (by omega) dX6_clearSignals_10 ?_
  refine zn_icmp_ge C 34 dX6_clearSignals_11 (by decide) (by omega) (by omega) (fun h1 => ?_) (fun h2 => ?_)
  · refine z_iload_n C dX6_clearSignals_34 1 rfl ?_
    exact z_iret C hr hk () (congrArg (fun x : Nat => some (Value.int (nI x))) (show sumL (fun k => nw (5 + 6 * k + 4)) (nw 1) = E by rw [hk2, show nw 1 = k by omega])) trivial (List.Perm.of_eq rfl) dX6_clearSignals_35 (Nat.le_refl _) (Nat.le_refl _)
  · refine z_iload_n C dX6_clearSignals_14 1 rfl ?_
    refine z_aload_n C dX6_clearSignals_15 0 rfl ?_
    refine zm_get_now C hin k13 dX6_clearSignals_16 ?_
    refine z_iload_n C dX6_clearSignals_19 2 rfl ?_
    refine zs_call C (mX6_b l D κ k) gX6_clearSignals_X6_b rfl rfl rfl hdX6_b ⟨Nat.le_of_ble_eq_true rfl, Nat.le_of_ble_eq_true rfl⟩ rfl (Nat.le_of_ble_eq_true rfl) dX6_clearSignals_20 ⟨Nat.zero_le _, Nat.zero_le _⟩ ?_
    refine z_iconst (v := nI 4) C dX6_clearSignals_23 (by decide) ?_
    refine zn_iadd C dX6_clearSignals_24 ?_
    refine zm_ald_now C (by omega) dX6_clearSignals_25 ?_
    have g3 : nw ((5 + 6 * k) + 4) ≤ M := hB.j (by omega) (by omega)
    refine zn_iadd C dX6_clearSignals_26 ?_
    refine z_istore_n C [(1, .int (nI (E + (nw ((5 + 6 * k) + 4))))), (0, .ref (Ad 0)), (2, .int (nI k))] dX6_clearSignals_27 (by decide) rfl ?_
    refine zn_iinc (n := 1) C [(2, .int (nI (k + 1))), (1, .int (nI (E + (nw ((5 + 6 * k) + 4))))), (0, .ref (Ad 0))] dX6_clearSignals_28 2 rfl (by decide) rfl ?_
    refine z_goto (tgt := 4) C dX6_clearSignals_31 (by decide) ?_
    refine z_lv [2, 1, 0] rfl ?_
    exact ih4 (k + 1, (E + (nw ((5 + 6 * k) + 4)))) ⟨by dsimp only; omega, by dsimp only; rw [hk2]; rfl⟩ (by dsimp only; omega)
theorem hdX6_clearSignals : yX6_clearSignals.cls = RX6 ∧ yX6_clearSignals.cls ≠ "java/lang/invoke/MethodHandle" ∧ yX6_clearSignals.cls ≠ "java/lang/invoke/VarHandle" ∧ (parseMethodDescriptor yX6_clearSignals.desc).map (fun d => d.parameters.length) = some 0 := by decide +kernel
set_option maxRecDepth 100000 in
set_option maxHeartbeats 4000000 in
theorem mX6_ofAllTrains (l : Launch) (D : va_G) (κ : Nat → ClassId) (Ad : Nat → Nat) (eo : Int32) (ip : Nat → Int32) (v nw aw od sv ot : Nat → Nat) (M : Nat) (q : Nat) (hB : Bd M nw) (hq : q < 6) : mM l yX6_ofAllTrains wsX6_ofAllTrains { frames := 1, cells := 0, slots := 0, locals := 20 } D κ Ad [.int (nI q)] eo ip v nw aw od sv ot (some (.int (nI (sumL (fun k => nw (65 + 5 * k + q)) (nw 2))))) eo ip v nw aw od sv ot := by
  refine zM_of (cc := cX6_ofAllTrains) (maxL := 4) (rt := (some .int)) [(0, .ref (Ad 0)), (1, .int (nI q))] (by decide +kernel) rfl (Nat.le_of_ble_eq_true rfl) rfl ?_
  intro p e s m args below meth c A C hr hk hnm
  have C : zC p s m args c cX6_ofAllTrains 4 wsX6_ofAllTrains RX6 D (zTy κ) A := C
  have hin : ∀ w ∈ wsX60, w ∈ wsX6_ofAllTrains := fun w h => List.mem_cons_of_mem _ (List.mem_append_right _ h)
  have k13 : Cond.fieldLink RX6 13 "PeatRailwayModel" "now" "[I" ∈ wsX6_ofAllTrains := by decide +kernel
  obtain ⟨hM1, hM2, ht0, hnb, hnt, hj, hp⟩ := id hB
  refine z_iconst (v := nI 0) C dX6_ofAllTrains_0 (by decide) ?_
  refine z_istore_n C [(2, .int (nI 0)), (0, .ref (Ad 0)), (1, .int (nI q))] dX6_ofAllTrains_1 (by decide) rfl ?_
  refine z_iconst (v := nI 0) C dX6_ofAllTrains_2 (by decide) ?_
  refine z_istore_n C [(3, .int (nI 0)), (2, .int (nI 0)), (0, .ref (Ad 0)), (1, .int (nI q))] dX6_ofAllTrains_3 (by decide) rfl ?_
  refine z_lv [2, 3, 1, 0] rfl ?_
  refine z_loop (σ := Nat × Nat) (fun x => MW κ Ad eo ip v nw aw od sv ot) (fun x => [(0, .ref (Ad 0)), (1, .int (nI q)), (2, .int (nI x.2)), (3, .int (nI x.1))]) (fun x => x.1 ≤ nw 2 ∧ x.2 = sumL (fun i => nw (65 + 5 * i + q)) x.1) (fun x => nw 2 - x.1) ((0, 0)) (⟨Nat.zero_le _, rfl⟩) rfl rfl ?_
  rintro ⟨k, E⟩ hI4 ih4
  dsimp only at hI4 ih4 ⊢
  obtain ⟨hk1, hk2⟩ := hI4
  refine z_iload_n C dX6_ofAllTrains_4 3 rfl ?_
  refine z_aload_n C dX6_ofAllTrains_5 0 rfl ?_
  refine zm_get_now C hin k13 dX6_ofAllTrains_6 ?_
  refine z_iconst (v := nI 2) C dX6_ofAllTrains_9 (by decide) ?_
  refine zm_ald_now C (by omega) dX6_ofAllTrains_10 ?_
  refine zn_icmp_ge C 34 dX6_ofAllTrains_11 (by decide) (by omega) (by omega) (fun h1 => ?_) (fun h2 => ?_)
  · refine z_iload_n C dX6_ofAllTrains_34 2 rfl ?_
    exact z_iret C hr hk () (congrArg (fun x : Nat => some (Value.int (nI x))) (show sumL (fun k => nw (65 + 5 * k + q)) (nw 2) = E by rw [hk2, show nw 2 = k by omega])) trivial (List.Perm.of_eq rfl) dX6_ofAllTrains_35 (Nat.le_refl _) (Nat.le_refl _)
  · refine z_iload_n C dX6_ofAllTrains_14 2 rfl ?_
    refine z_aload_n C dX6_ofAllTrains_15 0 rfl ?_
    refine zm_get_now C hin k13 dX6_ofAllTrains_16 ?_
    refine z_iload_n C dX6_ofAllTrains_19 3 rfl ?_
    refine zs_call C (mX6_t l D κ k) gX6_ofAllTrains_X6_t rfl rfl rfl hdX6_t ⟨Nat.le_of_ble_eq_true rfl, Nat.le_of_ble_eq_true rfl⟩ rfl (Nat.le_of_ble_eq_true rfl) dX6_ofAllTrains_20 ⟨Nat.zero_le _, Nat.zero_le _⟩ ?_
    refine z_iload_n C dX6_ofAllTrains_23 1 rfl ?_
    refine zn_iadd C dX6_ofAllTrains_24 ?_
    refine zm_ald_now C (by omega) dX6_ofAllTrains_25 ?_
    have g3 : nw ((65 + 5 * k) + q) ≤ M := hB.j (by omega) (by omega)
    refine zn_iadd C dX6_ofAllTrains_26 ?_
    refine z_istore_n C [(2, .int (nI (E + (nw ((65 + 5 * k) + q))))), (0, .ref (Ad 0)), (1, .int (nI q)), (3, .int (nI k))] dX6_ofAllTrains_27 (by decide) rfl ?_
    refine zn_iinc (n := 1) C [(3, .int (nI (k + 1))), (2, .int (nI (E + (nw ((65 + 5 * k) + q))))), (0, .ref (Ad 0)), (1, .int (nI q))] dX6_ofAllTrains_28 3 rfl (by decide) rfl ?_
    refine z_goto (tgt := 4) C dX6_ofAllTrains_31 (by decide) ?_
    refine z_lv [2, 3, 1, 0] rfl ?_
    exact ih4 (k + 1, (E + (nw ((65 + 5 * k) + q)))) ⟨by dsimp only; omega, by dsimp only; rw [hk2]; rfl⟩ (by dsimp only; omega)
theorem hdX6_ofAllTrains : yX6_ofAllTrains.cls = RX6 ∧ yX6_ofAllTrains.cls ≠ "java/lang/invoke/MethodHandle" ∧ yX6_ofAllTrains.cls ≠ "java/lang/invoke/VarHandle" ∧ (parseMethodDescriptor yX6_ofAllTrains.desc).map (fun d => d.parameters.length) = some 1 := by decide +kernel
set_option maxRecDepth 100000 in
set_option maxHeartbeats 4000000 in
theorem mX6_ofAllBlocks (l : Launch) (D : va_G) (κ : Nat → ClassId) (Ad : Nat → Nat) (eo : Int32) (ip : Nat → Int32) (v nw aw od sv ot : Nat → Nat) (M : Nat) (q : Nat) (hB : Bd M nw) (hq : q < 6) : mM l yX6_ofAllBlocks wsX6_ofAllBlocks { frames := 1, cells := 0, slots := 0, locals := 20 } D κ Ad [.int (nI q)] eo ip v nw aw od sv ot (some (.int (nI (sumL (fun k => nw (5 + 6 * k + q)) (nw 1))))) eo ip v nw aw od sv ot := by
  refine zM_of (cc := cX6_ofAllBlocks) (maxL := 4) (rt := (some .int)) [(0, .ref (Ad 0)), (1, .int (nI q))] (by decide +kernel) rfl (Nat.le_of_ble_eq_true rfl) rfl ?_
  intro p e s m args below meth c A C hr hk hnm
  have C : zC p s m args c cX6_ofAllBlocks 4 wsX6_ofAllBlocks RX6 D (zTy κ) A := C
  have hin : ∀ w ∈ wsX60, w ∈ wsX6_ofAllBlocks := fun w h => List.mem_cons_of_mem _ (List.mem_append_right _ h)
  have k13 : Cond.fieldLink RX6 13 "PeatRailwayModel" "now" "[I" ∈ wsX6_ofAllBlocks := by decide +kernel
  obtain ⟨hM1, hM2, ht0, hnb, hnt, hj, hp⟩ := id hB
  refine z_iconst (v := nI 0) C dX6_ofAllBlocks_0 (by decide) ?_
  refine z_istore_n C [(2, .int (nI 0)), (0, .ref (Ad 0)), (1, .int (nI q))] dX6_ofAllBlocks_1 (by decide) rfl ?_
  refine z_iconst (v := nI 0) C dX6_ofAllBlocks_2 (by decide) ?_
  refine z_istore_n C [(3, .int (nI 0)), (2, .int (nI 0)), (0, .ref (Ad 0)), (1, .int (nI q))] dX6_ofAllBlocks_3 (by decide) rfl ?_
  refine z_lv [2, 3, 1, 0] rfl ?_
  refine z_loop (σ := Nat × Nat) (fun x => MW κ Ad eo ip v nw aw od sv ot) (fun x => [(0, .ref (Ad 0)), (1, .int (nI q)), (2, .int (nI x.2)), (3, .int (nI x.1))]) (fun x => x.1 ≤ nw 1 ∧ x.2 = sumL (fun i => nw (5 + 6 * i + q)) x.1) (fun x => nw 1 - x.1) ((0, 0)) (⟨Nat.zero_le _, rfl⟩) rfl rfl ?_
  rintro ⟨k, E⟩ hI4 ih4
  dsimp only at hI4 ih4 ⊢
  obtain ⟨hk1, hk2⟩ := hI4
  refine z_iload_n C dX6_ofAllBlocks_4 3 rfl ?_
  refine z_aload_n C dX6_ofAllBlocks_5 0 rfl ?_
  refine zm_get_now C hin k13 dX6_ofAllBlocks_6 ?_
  refine z_iconst (v := nI 1) C dX6_ofAllBlocks_9 (by decide) ?_
  refine zm_ald_now C (by omega) dX6_ofAllBlocks_10 ?_
  refine zn_icmp_ge C 34 dX6_ofAllBlocks_11 (by decide) (by omega) (by omega) (fun h1 => ?_) (fun h2 => ?_)
  · refine z_iload_n C dX6_ofAllBlocks_34 2 rfl ?_
    exact z_iret C hr hk () (congrArg (fun x : Nat => some (Value.int (nI x))) (show sumL (fun k => nw (5 + 6 * k + q)) (nw 1) = E by rw [hk2, show nw 1 = k by omega])) trivial (List.Perm.of_eq rfl) dX6_ofAllBlocks_35 (Nat.le_refl _) (Nat.le_refl _)
  · refine z_iload_n C dX6_ofAllBlocks_14 2 rfl ?_
    refine z_aload_n C dX6_ofAllBlocks_15 0 rfl ?_
    refine zm_get_now C hin k13 dX6_ofAllBlocks_16 ?_
    refine z_iload_n C dX6_ofAllBlocks_19 3 rfl ?_
    refine zs_call C (mX6_b l D κ k) gX6_ofAllBlocks_X6_b rfl rfl rfl hdX6_b ⟨Nat.le_of_ble_eq_true rfl, Nat.le_of_ble_eq_true rfl⟩ rfl (Nat.le_of_ble_eq_true rfl) dX6_ofAllBlocks_20 ⟨Nat.zero_le _, Nat.zero_le _⟩ ?_
    refine z_iload_n C dX6_ofAllBlocks_23 1 rfl ?_
    refine zn_iadd C dX6_ofAllBlocks_24 ?_
    refine zm_ald_now C (by omega) dX6_ofAllBlocks_25 ?_
    have g3 : nw ((5 + 6 * k) + q) ≤ M := hB.j (by omega) (by omega)
    refine zn_iadd C dX6_ofAllBlocks_26 ?_
    refine z_istore_n C [(2, .int (nI (E + (nw ((5 + 6 * k) + q))))), (0, .ref (Ad 0)), (1, .int (nI q)), (3, .int (nI k))] dX6_ofAllBlocks_27 (by decide) rfl ?_
    refine zn_iinc (n := 1) C [(3, .int (nI (k + 1))), (2, .int (nI (E + (nw ((5 + 6 * k) + q))))), (0, .ref (Ad 0)), (1, .int (nI q))] dX6_ofAllBlocks_28 3 rfl (by decide) rfl ?_
    refine z_goto (tgt := 4) C dX6_ofAllBlocks_31 (by decide) ?_
    refine z_lv [2, 3, 1, 0] rfl ?_
    exact ih4 (k + 1, (E + (nw ((5 + 6 * k) + q)))) ⟨by dsimp only; omega, by dsimp only; rw [hk2]; rfl⟩ (by dsimp only; omega)
theorem hdX6_ofAllBlocks : yX6_ofAllBlocks.cls = RX6 ∧ yX6_ofAllBlocks.cls ≠ "java/lang/invoke/MethodHandle" ∧ yX6_ofAllBlocks.cls ≠ "java/lang/invoke/VarHandle" ∧ (parseMethodDescriptor yX6_ofAllBlocks.desc).map (fun d => d.parameters.length) = some 1 := by decide +kernel
set_option maxRecDepth 100000 in
set_option maxHeartbeats 4000000 in
theorem mX6_putsAside (l : Launch) (D : va_G) (κ : Nat → ClassId) (Ad : Nat → Nat) (eo : Int32) (ip : Nat → Int32) (v nw aw od sv ot : Nat → Nat)   : mM l yX6_putsAside wsX6_putsAside { frames := 0, cells := 0, slots := 0, locals := 0 } D κ Ad [] eo ip v nw aw od sv ot none eo ip v nw nw od sv ot := by
  refine zM_of (cc := cX6_putsAside) (maxL := 2) (rt := none) [(0, .ref (Ad 0))] (by decide +kernel) rfl (Nat.le_of_ble_eq_true rfl) rfl ?_
  intro p e s m args below meth c A C hr hk hnm
  have C : zC p s m args c cX6_putsAside 2 wsX6_putsAside RX6 D (zTy κ) A := C
  have hin : ∀ w ∈ wsX60, w ∈ wsX6_putsAside := fun w h => List.mem_cons_of_mem _ (List.mem_append_right _ h)
  have k16 : Cond.fieldLink RX6 16 "PeatRailwayModel" "aside" "[I" ∈ wsX6_putsAside := by decide +kernel
  have k13 : Cond.fieldLink RX6 13 "PeatRailwayModel" "now" "[I" ∈ wsX6_putsAside := by decide +kernel
  refine z_iconst (v := nI 0) C dX6_putsAside_0 (by decide) ?_
  refine z_istore_n C [(1, .int (nI 0)), (0, .ref (Ad 0))] dX6_putsAside_1 (by decide) rfl ?_
  refine z_lv [1, 0] rfl ?_
  refine z_loop (σ := Nat × (Nat → Nat)) (fun x => MW κ Ad eo ip v nw x.2 od sv ot) (fun x => [(0, .ref (Ad 0)), (1, .int (nI x.1))]) (fun x => x.1 ≤ 140 ∧ ∀ j, x.2 j = if j < x.1 then nw j else aw j) (fun x => 140 - x.1) ((0, aw)) (⟨Nat.zero_le _, fun j => by simp⟩) rfl rfl ?_
  rintro ⟨k, τ⟩ hI2 ih2
  dsimp only at hI2 ih2 ⊢
  obtain ⟨hk1, hk2⟩ := hI2
  refine z_iload_n C dX6_putsAside_2 1 rfl ?_
  refine z_sipush (v := nI 140) C dX6_putsAside_3 (by decide) ?_
  refine zn_icmp_ge C 27 dX6_putsAside_6 (by decide) (by omega) (by omega) (fun h1 => ?_) (fun h2 => ?_)
  · refine zr_aside nw (fun j hj => by rw [hk2 j, if_pos (by omega)]) ?_
    exact z_vret C hr hk () (rfl) trivial (List.Perm.of_eq rfl) dX6_putsAside_27 (Nat.le_refl _) (Nat.le_refl _)
  · refine z_aload_n C dX6_putsAside_9 0 rfl ?_
    refine zm_get_aside C hin k16 dX6_putsAside_10 ?_
    refine z_iload_n C dX6_putsAside_13 1 rfl ?_
    refine z_aload_n C dX6_putsAside_14 0 rfl ?_
    refine zm_get_now C hin k13 dX6_putsAside_15 ?_
    refine z_iload_n C dX6_putsAside_18 1 rfl ?_
    refine zm_ald_now C (by omega) dX6_putsAside_19 ?_
    refine zm_ast_aside C (by omega) dX6_putsAside_20 ?_
    refine zn_iinc (n := 1) C [(1, .int (nI (k + 1))), (0, .ref (Ad 0))] dX6_putsAside_21 1 rfl (by decide) rfl ?_
    refine z_goto (tgt := 2) C dX6_putsAside_24 (by decide) ?_
    refine z_lv [1, 0] rfl ?_
    exact ih2 (k + 1, upN τ k (nw k)) ⟨by dsimp only; omega, fun j => by dsimp only; exact cp_step hk2 rfl j⟩ (by dsimp only; omega)
theorem hdX6_putsAside : yX6_putsAside.cls = RX6 ∧ yX6_putsAside.cls ≠ "java/lang/invoke/MethodHandle" ∧ yX6_putsAside.cls ≠ "java/lang/invoke/VarHandle" ∧ (parseMethodDescriptor yX6_putsAside.desc).map (fun d => d.parameters.length) = some 0 := by decide +kernel
set_option maxRecDepth 100000 in
set_option maxHeartbeats 4000000 in
theorem mX6_putsBack (l : Launch) (D : va_G) (κ : Nat → ClassId) (Ad : Nat → Nat) (eo : Int32) (ip : Nat → Int32) (v nw aw od sv ot : Nat → Nat)   : mM l yX6_putsBack wsX6_putsBack { frames := 0, cells := 0, slots := 0, locals := 0 } D κ Ad [] eo ip v nw aw od sv ot none eo ip v aw aw od sv ot := by
  refine zM_of (cc := cX6_putsBack) (maxL := 2) (rt := none) [(0, .ref (Ad 0))] (by decide +kernel) rfl (Nat.le_of_ble_eq_true rfl) rfl ?_
  intro p e s m args below meth c A C hr hk hnm
  have C : zC p s m args c cX6_putsBack 2 wsX6_putsBack RX6 D (zTy κ) A := C
  have hin : ∀ w ∈ wsX60, w ∈ wsX6_putsBack := fun w h => List.mem_cons_of_mem _ (List.mem_append_right _ h)
  have k13 : Cond.fieldLink RX6 13 "PeatRailwayModel" "now" "[I" ∈ wsX6_putsBack := by decide +kernel
  have k16 : Cond.fieldLink RX6 16 "PeatRailwayModel" "aside" "[I" ∈ wsX6_putsBack := by decide +kernel
  refine z_iconst (v := nI 0) C dX6_putsBack_0 (by decide) ?_
  refine z_istore_n C [(1, .int (nI 0)), (0, .ref (Ad 0))] dX6_putsBack_1 (by decide) rfl ?_
  refine z_lv [1, 0] rfl ?_
  refine z_loop (σ := Nat × (Nat → Nat)) (fun x => MW κ Ad eo ip v x.2 aw od sv ot) (fun x => [(0, .ref (Ad 0)), (1, .int (nI x.1))]) (fun x => x.1 ≤ 140 ∧ ∀ j, x.2 j = if j < x.1 then aw j else nw j) (fun x => 140 - x.1) ((0, nw)) (⟨Nat.zero_le _, fun j => by simp⟩) rfl rfl ?_
  rintro ⟨k, τ⟩ hI2 ih2
  dsimp only at hI2 ih2 ⊢
  obtain ⟨hk1, hk2⟩ := hI2
  refine z_iload_n C dX6_putsBack_2 1 rfl ?_
  refine z_sipush (v := nI 140) C dX6_putsBack_3 (by decide) ?_
  refine zn_icmp_ge C 27 dX6_putsBack_6 (by decide) (by omega) (by omega) (fun h1 => ?_) (fun h2 => ?_)
  · refine zr_now aw (fun j hj => by rw [hk2 j, if_pos (by omega)]) ?_
    exact z_vret C hr hk () (rfl) trivial (List.Perm.of_eq rfl) dX6_putsBack_27 (Nat.le_refl _) (Nat.le_refl _)
  · refine z_aload_n C dX6_putsBack_9 0 rfl ?_
    refine zm_get_now C hin k13 dX6_putsBack_10 ?_
    refine z_iload_n C dX6_putsBack_13 1 rfl ?_
    refine z_aload_n C dX6_putsBack_14 0 rfl ?_
    refine zm_get_aside C hin k16 dX6_putsBack_15 ?_
    refine z_iload_n C dX6_putsBack_18 1 rfl ?_
    refine zm_ald_aside C (by omega) dX6_putsBack_19 ?_
    refine zm_ast_now C (by omega) dX6_putsBack_20 ?_
    refine zn_iinc (n := 1) C [(1, .int (nI (k + 1))), (0, .ref (Ad 0))] dX6_putsBack_21 1 rfl (by decide) rfl ?_
    refine z_goto (tgt := 2) C dX6_putsBack_24 (by decide) ?_
    refine z_lv [1, 0] rfl ?_
    exact ih2 (k + 1, upN τ k (aw k)) ⟨by dsimp only; omega, fun j => by dsimp only; exact cp_step hk2 rfl j⟩ (by dsimp only; omega)
theorem hdX6_putsBack : yX6_putsBack.cls = RX6 ∧ yX6_putsBack.cls ≠ "java/lang/invoke/MethodHandle" ∧ yX6_putsBack.cls ≠ "java/lang/invoke/VarHandle" ∧ (parseMethodDescriptor yX6_putsBack.desc).map (fun d => d.parameters.length) = some 0 := by decide +kernel
end M4
