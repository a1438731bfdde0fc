section M6
set_option maxRecDepth 100000 in
set_option maxHeartbeats 4000000 in
theorem mX6_tick (l : Launch) (D : va_G) (κ : Nat → ClassId) (Ad : Nat → Nat) (eo : Int32) (ip : Nat → Int32) (v nw aw od sv ot : Nat → Nat) (M : Nat)  (hB : Bd M nw) : mM l yX6_tick wsX6_tick { frames := 1, cells := 0, slots := 0, locals := 21 } D κ Ad [] eo ip v nw aw od sv ot (some (.int (nI (nw 0)))) eo ip (upN v 1 0) nw aw od sv ot := by
  refine zM_of (cc := cX6_tick) (maxL := 1) (rt := (some .int)) [(0, .ref (Ad 0))] (by decide +kernel) rfl (Nat.le_of_ble_eq_true rfl) rfl ?_
  intro p e s m args below meth c A C hr hk hnm
  have C : zC p s m args c cX6_tick 1 wsX6_tick RX6 D (zTy κ) A := C
  have hin : ∀ w ∈ wsX60, w ∈ wsX6_tick := fun w h => List.mem_cons_of_mem _ (List.mem_append_right _ h)
  have k13 : Cond.fieldLink RX6 13 "PeatRailwayModel" "now" "[I" ∈ wsX6_tick := by decide +kernel
  obtain ⟨hM1, hM2, ht0, hnb, hnt, hj, hp⟩ := id hB
  refine z_aload_n C dX6_tick_0 0 rfl ?_
  refine z_aload_n C dX6_tick_1 0 rfl ?_
  refine zm_get_now C hin k13 dX6_tick_2 ?_
  refine z_iconst (v := nI 0) C dX6_tick_5 (by decide) ?_
  refine zm_ald_now C (by omega) dX6_tick_6 ?_
  refine zm_call C (mX6_told l D κ Ad _ _ _ _ _ _ _ _ (nI (nw 0))) gX6_tick_X6_told rfl rfl rfl hdX6_told ⟨Nat.le_of_ble_eq_true rfl, Nat.le_of_ble_eq_true rfl⟩ rfl (Nat.le_of_ble_eq_true rfl) dX6_tick_7 ⟨Nat.zero_le _, Nat.zero_le _⟩ ?_
  exact z_iret C hr hk () (rfl) trivial (List.Perm.of_eq rfl) dX6_tick_10 (Nat.le_refl _) (Nat.le_refl _)
theorem hdX6_tick : yX6_tick.cls = RX6 ∧ yX6_tick.cls ≠ "java/lang/invoke/MethodHandle" ∧ yX6_tick.cls ≠ "java/lang/invoke/VarHandle" ∧ (parseMethodDescriptor yX6_tick.desc).map (fun d => d.parameters.length) = some 0 := by decide +kernel
set_option maxRecDepth 100000 in
set_option maxHeartbeats 4000000 in
theorem mX6_blockCount (l : Launch) (D : va_G) (κ : Nat → ClassId) (Ad : Nat → Nat) (eo : Int32) (ip : Nat → Int32) (v nw aw od sv ot : Nat → Nat) (M : Nat)  (hB : Bd M nw) : mM l yX6_blockCount wsX6_blockCount { frames := 1, cells := 0, slots := 0, locals := 21 } D κ Ad [] eo ip v nw aw od sv ot (some (.int (nI (nw 1)))) eo ip (upN v 1 0) nw aw od sv ot := by
  refine zM_of (cc := cX6_blockCount) (maxL := 1) (rt := (some .int)) [(0, .ref (Ad 0))] (by decide +kernel) rfl (Nat.le_of_ble_eq_true rfl) rfl ?_
  intro p e s m args below meth c A C hr hk hnm
  have C : zC p s m args c cX6_blockCount 1 wsX6_blockCount RX6 D (zTy κ) A := C
  have hin : ∀ w ∈ wsX60, w ∈ wsX6_blockCount := fun w h => List.mem_cons_of_mem _ (List.mem_append_right _ h)
  have k13 : Cond.fieldLink RX6 13 "PeatRailwayModel" "now" "[I" ∈ wsX6_blockCount := by decide +kernel
  obtain ⟨hM1, hM2, ht0, hnb, hnt, hj, hp⟩ := id hB
  refine z_aload_n C dX6_blockCount_0 0 rfl ?_
  refine z_aload_n C dX6_blockCount_1 0 rfl ?_
  refine zm_get_now C hin k13 dX6_blockCount_2 ?_
  refine z_iconst (v := nI 1) C dX6_blockCount_5 (by decide) ?_
  refine zm_ald_now C (by omega) dX6_blockCount_6 ?_
  refine zm_call C (mX6_told l D κ Ad _ _ _ _ _ _ _ _ (nI (nw 1))) gX6_blockCount_X6_told rfl rfl rfl hdX6_told ⟨Nat.le_of_ble_eq_true rfl, Nat.le_of_ble_eq_true rfl⟩ rfl (Nat.le_of_ble_eq_true rfl) dX6_blockCount_7 ⟨Nat.zero_le _, Nat.zero_le _⟩ ?_
  exact z_iret C hr hk () (rfl) trivial (List.Perm.of_eq rfl) dX6_blockCount_10 (Nat.le_refl _) (Nat.le_refl _)
theorem hdX6_blockCount : yX6_blockCount.cls = RX6 ∧ yX6_blockCount.cls ≠ "java/lang/invoke/MethodHandle" ∧ yX6_blockCount.cls ≠ "java/lang/invoke/VarHandle" ∧ (parseMethodDescriptor yX6_blockCount.desc).map (fun d => d.parameters.length) = some 0 := by decide +kernel
set_option maxRecDepth 100000 in
set_option maxHeartbeats 4000000 in
theorem mX6_trainCount (l : Launch) (D : va_G) (κ : Nat → ClassId) (Ad : Nat → Nat) (eo : Int32) (ip : Nat → Int32) (v nw aw od sv ot : Nat → Nat) (M : Nat)  (hB : Bd M nw) : mM l yX6_trainCount wsX6_trainCount { frames := 1, cells := 0, slots := 0, locals := 21 } D κ Ad [] eo ip v nw aw od sv ot (some (.int (nI (nw 2)))) eo ip (upN v 1 0) nw aw od sv ot := by
  refine zM_of (cc := cX6_trainCount) (maxL := 1) (rt := (some .int)) [(0, .ref (Ad 0))] (by decide +kernel) rfl (Nat.le_of_ble_eq_true rfl) rfl ?_
  intro p e s m args below meth c A C hr hk hnm
  have C : zC p s m args c cX6_trainCount 1 wsX6_trainCount RX6 D (zTy κ) A := C
  have hin : ∀ w ∈ wsX60, w ∈ wsX6_trainCount := fun w h => List.mem_cons_of_mem _ (List.mem_append_right _ h)
  have k13 : Cond.fieldLink RX6 13 "PeatRailwayModel" "now" "[I" ∈ wsX6_trainCount := by decide +kernel
  obtain ⟨hM1, hM2, ht0, hnb, hnt, hj, hp⟩ := id hB
  refine z_aload_n C dX6_trainCount_0 0 rfl ?_
  refine z_aload_n C dX6_trainCount_1 0 rfl ?_
  refine zm_get_now C hin k13 dX6_trainCount_2 ?_
  refine z_iconst (v := nI 2) C dX6_trainCount_5 (by decide) ?_
  refine zm_ald_now C (by omega) dX6_trainCount_6 ?_
  refine zm_call C (mX6_told l D κ Ad _ _ _ _ _ _ _ _ (nI (nw 2))) gX6_trainCount_X6_told rfl rfl rfl hdX6_told ⟨Nat.le_of_ble_eq_true rfl, Nat.le_of_ble_eq_true rfl⟩ rfl (Nat.le_of_ble_eq_true rfl) dX6_trainCount_7 ⟨Nat.zero_le _, Nat.zero_le _⟩ ?_
  exact z_iret C hr hk () (rfl) trivial (List.Perm.of_eq rfl) dX6_trainCount_10 (Nat.le_refl _) (Nat.le_refl _)
theorem hdX6_trainCount : yX6_trainCount.cls = RX6 ∧ yX6_trainCount.cls ≠ "java/lang/invoke/MethodHandle" ∧ yX6_trainCount.cls ≠ "java/lang/invoke/VarHandle" ∧ (parseMethodDescriptor yX6_trainCount.desc).map (fun d => d.parameters.length) = some 0 := by decide +kernel
set_option maxRecDepth 100000 in
set_option maxHeartbeats 4000000 in
theorem mX6_errorKind (l : Launch) (D : va_G) (κ : Nat → ClassId) (Ad : Nat → Nat) (eo : Int32) (ip : Nat → Int32) (v nw aw od sv ot : Nat → Nat) (M : Nat)  (hB : Bd M nw) : mM l yX6_errorKind wsX6_errorKind { frames := 1, cells := 0, slots := 0, locals := 21 } D κ Ad [] eo ip v nw aw od sv ot (some (.int (nI (v 12)))) eo ip (upN v 1 0) nw aw od sv ot := by
  refine zM_of (cc := cX6_errorKind) (maxL := 1) (rt := (some .int)) [(0, .ref (Ad 0))] (by decide +kernel) rfl (Nat.le_of_ble_eq_true rfl) rfl ?_
  intro p e s m args below meth c A C hr hk hnm
  have C : zC p s m args c cX6_errorKind 1 wsX6_errorKind RX6 D (zTy κ) A := C
  have hin : ∀ w ∈ wsX60, w ∈ wsX6_errorKind := fun w h => List.mem_cons_of_mem _ (List.mem_append_right _ h)
  have k198 : Cond.fieldLink RX6 198 "PeatRailwayModel" "errorKind" "I" ∈ wsX6_errorKind := by decide +kernel
  obtain ⟨hM1, hM2, ht0, hnb, hnt, hj, hp⟩ := id hB
  refine z_aload_n C dX6_errorKind_0 0 rfl ?_
  refine z_aload_n C dX6_errorKind_1 0 rfl ?_
  refine zm_get_errorKind C hin (x := v 12) k198 dX6_errorKind_2 rfl ?_
  refine zm_call C (mX6_told l D κ Ad _ _ _ _ _ _ _ _ (nI (v 12))) gX6_errorKind_X6_told rfl rfl rfl hdX6_told ⟨Nat.le_of_ble_eq_true rfl, Nat.le_of_ble_eq_true rfl⟩ rfl (Nat.le_of_ble_eq_true rfl) dX6_errorKind_5 ⟨Nat.zero_le _, Nat.zero_le _⟩ ?_
  exact z_iret C hr hk () (rfl) trivial (List.Perm.of_eq rfl) dX6_errorKind_8 (Nat.le_refl _) (Nat.le_refl _)
theorem hdX6_errorKind : yX6_errorKind.cls = RX6 ∧ yX6_errorKind.cls ≠ "java/lang/invoke/MethodHandle" ∧ yX6_errorKind.cls ≠ "java/lang/invoke/VarHandle" ∧ (parseMethodDescriptor yX6_errorKind.desc).map (fun d => d.parameters.length) = some 0 := by decide +kernel
set_option maxRecDepth 100000 in
set_option maxHeartbeats 4000000 in
theorem mX6_errorOffset (l : Launch) (D : va_G) (κ : Nat → ClassId) (Ad : Nat → Nat) (eo : Int32) (ip : Nat → Int32) (v nw aw od sv ot : Nat → Nat) (M : Nat)  (hB : Bd M nw) : mM l yX6_errorOffset wsX6_errorOffset { frames := 1, cells := 0, slots := 0, locals := 21 } D κ Ad [] eo ip v nw aw od sv ot (some (.int (eo))) eo ip (upN v 1 0) nw aw od sv ot := by
  refine zM_of (cc := cX6_errorOffset) (maxL := 1) (rt := (some .int)) [(0, .ref (Ad 0))] (by decide +kernel) rfl (Nat.le_of_ble_eq_true rfl) rfl ?_
  intro p e s m args below meth c A C hr hk hnm
  have C : zC p s m args c cX6_errorOffset 1 wsX6_errorOffset RX6 D (zTy κ) A := C
  have hin : ∀ w ∈ wsX60, w ∈ wsX6_errorOffset := fun w h => List.mem_cons_of_mem _ (List.mem_append_right _ h)
  have k32 : Cond.fieldLink RX6 32 "PeatRailwayModel" "errorOffset" "I" ∈ wsX6_errorOffset := by decide +kernel
  obtain ⟨hM1, hM2, ht0, hnb, hnt, hj, hp⟩ := id hB
  refine z_aload_n C dX6_errorOffset_0 0 rfl ?_
  refine z_aload_n C dX6_errorOffset_1 0 rfl ?_
  refine zm_get_errorOffset C hin k32 dX6_errorOffset_2 ?_
  refine zm_call C (mX6_told l D κ Ad _ _ _ _ _ _ _ _ (eo)) gX6_errorOffset_X6_told rfl rfl rfl hdX6_told ⟨Nat.le_of_ble_eq_true rfl, Nat.le_of_ble_eq_true rfl⟩ rfl (Nat.le_of_ble_eq_true rfl) dX6_errorOffset_5 ⟨Nat.zero_le _, Nat.zero_le _⟩ ?_
  exact z_iret C hr hk () (rfl) trivial (List.Perm.of_eq rfl) dX6_errorOffset_8 (Nat.le_refl _) (Nat.le_refl _)
theorem hdX6_errorOffset : yX6_errorOffset.cls = RX6 ∧ yX6_errorOffset.cls ≠ "java/lang/invoke/MethodHandle" ∧ yX6_errorOffset.cls ≠ "java/lang/invoke/VarHandle" ∧ (parseMethodDescriptor yX6_errorOffset.desc).map (fun d => d.parameters.length) = some 0 := by decide +kernel
set_option maxRecDepth 100000 in
set_option maxHeartbeats 4000000 in
theorem mX6_lengthOf_no (l : Launch) (D : va_G) (κ : Nat → ClassId) (Ad : Nat → Nat) (eo : Int32) (ip : Nat → Int32) (v nw aw od sv ot : Nat → Nat) (M : Nat) (x : Int32)  (hB : Bd M nw) (hx : isB (nw 1) x = false) : mM l yX6_lengthOf wsX6_lengthOf { frames := 2, cells := 0, slots := 0, locals := 43 } D κ Ad [.int (x)] eo ip v nw aw od sv ot (some (.int (nI 0))) eo ip (upN v 1 1) nw aw od sv ot := by
  refine zM_of (cc := cX6_lengthOf) (maxL := 2) (rt := (some .int)) [(0, .ref (Ad 0)), (1, .int (x))] (by decide +kernel) rfl (Nat.le_of_ble_eq_true rfl) rfl ?_
  intro p e s m args below meth c A C hr hk hnm
  have C : zC p s m args c cX6_lengthOf 2 wsX6_lengthOf RX6 D (zTy κ) A := C
  have hin : ∀ w ∈ wsX60, w ∈ wsX6_lengthOf := fun w h => List.mem_cons_of_mem _ (List.mem_append_right _ h)
  have k13 : Cond.fieldLink RX6 13 "PeatRailwayModel" "now" "[I" ∈ wsX6_lengthOf := by decide +kernel
  obtain ⟨hM1, hM2, ht0, hnb, hnt, hj, hp⟩ := id hB
  refine z_aload_n C dX6_lengthOf_0 0 rfl ?_
  refine z_iload_n C dX6_lengthOf_1 1 rfl ?_
  refine zm_call C (mX6_isBlock_no l D κ Ad _ _ _ _ _ _ _ _ M x hB hx) gX6_lengthOf_X6_isBlock rfl rfl rfl hdX6_isBlock ⟨Nat.le_of_ble_eq_true rfl, Nat.le_of_ble_eq_true rfl⟩ rfl (Nat.le_of_ble_eq_true rfl) dX6_lengthOf_2 ⟨Nat.zero_le _, Nat.zero_le _⟩ ?_
  refine zb_if_ne C 14 dX6_lengthOf_5 (by decide) (fun q => absurd q (by decide)) (fun _ => ?_)
  refine z_aload_n C dX6_lengthOf_8 0 rfl ?_
  refine z_iconst (v := nI 1) C dX6_lengthOf_9 (by decide) ?_
  refine zm_call C (mX6_refuse l D κ Ad _ _ _ _ _ _ _ _ 1) gX6_lengthOf_X6_refuse rfl rfl rfl hdX6_refuse ⟨Nat.le_of_ble_eq_true rfl, Nat.le_of_ble_eq_true rfl⟩ rfl (Nat.le_of_ble_eq_true rfl) dX6_lengthOf_10 ⟨Nat.zero_le _, Nat.zero_le _⟩ ?_
  exact z_iret C hr hk () (rfl) trivial (List.Perm.of_eq rfl) dX6_lengthOf_13 (Nat.le_refl _) (Nat.le_refl _)
theorem hdX6_lengthOf : yX6_lengthOf.cls = RX6 ∧ yX6_lengthOf.cls ≠ "java/lang/invoke/MethodHandle" ∧ yX6_lengthOf.cls ≠ "java/lang/invoke/VarHandle" ∧ (parseMethodDescriptor yX6_lengthOf.desc).map (fun d => d.parameters.length) = some 1 := by decide +kernel
set_option maxRecDepth 100000 in
set_option maxHeartbeats 4000000 in
theorem mX6_lengthOf_ok (l : Launch) (D : va_G) (κ : Nat → ClassId) (Ad : Nat → Nat) (eo : Int32) (ip : Nat → Int32) (v nw aw od sv ot : Nat → Nat) (M : Nat) (k : Nat) (hB : Bd M nw) (hk0 : k < nw 1) : mM l yX6_lengthOf wsX6_lengthOf { frames := 2, cells := 0, slots := 0, locals := 43 } D κ Ad [.int (nI k)] eo ip v nw aw od sv ot (some (.int (nI (nw (5 + 6 * k + 0))))) eo ip (upN v 1 0) nw aw od sv ot := by
  refine zM_of (cc := cX6_lengthOf) (maxL := 2) (rt := (some .int)) [(0, .ref (Ad 0)), (1, .int (nI k))] (by decide +kernel) rfl (Nat.le_of_ble_eq_true rfl) rfl ?_
  intro p e s m args below meth c A C hr hk hnm
  have C : zC p s m args c cX6_lengthOf 2 wsX6_lengthOf RX6 D (zTy κ) A := C
  have hin : ∀ w ∈ wsX60, w ∈ wsX6_lengthOf := fun w h => List.mem_cons_of_mem _ (List.mem_append_right _ h)
  have k13 : Cond.fieldLink RX6 13 "PeatRailwayModel" "now" "[I" ∈ wsX6_lengthOf := by decide +kernel
  obtain ⟨hM1, hM2, ht0, hnb, hnt, hj, hp⟩ := id hB
  refine z_aload_n C dX6_lengthOf_0 0 rfl ?_
  refine z_iload_n C dX6_lengthOf_1 1 rfl ?_
  refine zm_call C (mX6_isBlock_k l D κ Ad _ _ _ _ _ _ _ _ M k hB (by omega)) gX6_lengthOf_X6_isBlock rfl rfl rfl hdX6_isBlock ⟨Nat.le_of_ble_eq_true rfl, Nat.le_of_ble_eq_true rfl⟩ rfl (Nat.le_of_ble_eq_true rfl) dX6_lengthOf_2 ⟨Nat.zero_le _, Nat.zero_le _⟩ ?_
  refine zb_if_ne C 14 dX6_lengthOf_5 (by decide) (fun _ => ?_) (fun q => absurd q (by decide))
  refine z_aload_n C dX6_lengthOf_14 0 rfl ?_
  refine z_aload_n C dX6_lengthOf_15 0 rfl ?_
  refine zm_get_now C hin k13 dX6_lengthOf_16 ?_
  refine z_iload_n C dX6_lengthOf_19 1 rfl ?_
  refine zs_call C (mX6_b l D κ k) gX6_lengthOf_X6_b rfl rfl rfl hdX6_b ⟨Nat.le_of_ble_eq_true rfl, Nat.le_of_ble_eq_true rfl⟩ rfl (Nat.le_of_ble_eq_true rfl) dX6_lengthOf_20 ⟨Nat.zero_le _, Nat.zero_le _⟩ ?_
  refine z_iconst (v := nI 0) C dX6_lengthOf_23 (by decide) ?_
  refine zn_iadd C dX6_lengthOf_24 ?_
  refine zm_ald_now C (by omega) dX6_lengthOf_25 ?_
  have g1 : nw ((5 + 6 * k) + 0) ≤ M := hB.j (by omega) (by omega)
  refine zm_call C (mX6_told l D κ Ad _ _ _ _ _ _ _ _ (nI (nw ((5 + 6 * k) + 0)))) gX6_lengthOf_X6_told rfl rfl rfl hdX6_told ⟨Nat.le_of_ble_eq_true rfl, Nat.le_of_ble_eq_true rfl⟩ rfl (Nat.le_of_ble_eq_true rfl) dX6_lengthOf_26 ⟨Nat.zero_le _, Nat.zero_le _⟩ ?_
  exact z_iret C hr hk () (rfl) trivial (List.Perm.of_eq rfl) dX6_lengthOf_29 (Nat.le_refl _) (Nat.le_refl _)
set_option maxRecDepth 100000 in
set_option maxHeartbeats 4000000 in
theorem mX6_depthOf_no (l : Launch) (D : va_G) (κ : Nat → ClassId) (Ad : Nat → Nat) (eo : Int32) (ip : Nat → Int32) (v nw aw od sv ot : Nat → Nat) (M : Nat) (x : Int32)  (hB : Bd M nw) (hx : isB (nw 1) x = false) : mM l yX6_depthOf wsX6_depthOf { frames := 2, cells := 0, slots := 0, locals := 43 } D κ Ad [.int (x)] eo ip v nw aw od sv ot (some (.int (nI 0))) eo ip (upN v 1 1) nw aw od sv ot := by
  refine zM_of (cc := cX6_depthOf) (maxL := 2) (rt := (some .int)) [(0, .ref (Ad 0)), (1, .int (x))] (by decide +kernel) rfl (Nat.le_of_ble_eq_true rfl) rfl ?_
  intro p e s m args below meth c A C hr hk hnm
  have C : zC p s m args c cX6_depthOf 2 wsX6_depthOf RX6 D (zTy κ) A := C
  have hin : ∀ w ∈ wsX60, w ∈ wsX6_depthOf := fun w h => List.mem_cons_of_mem _ (List.mem_append_right _ h)
  have k13 : Cond.fieldLink RX6 13 "PeatRailwayModel" "now" "[I" ∈ wsX6_depthOf := by decide +kernel
  obtain ⟨hM1, hM2, ht0, hnb, hnt, hj, hp⟩ := id hB
  refine z_aload_n C dX6_depthOf_0 0 rfl ?_
  refine z_iload_n C dX6_depthOf_1 1 rfl ?_
  refine zm_call C (mX6_isBlock_no l D κ Ad _ _ _ _ _ _ _ _ M x hB hx) gX6_depthOf_X6_isBlock rfl rfl rfl hdX6_isBlock ⟨Nat.le_of_ble_eq_true rfl, Nat.le_of_ble_eq_true rfl⟩ rfl (Nat.le_of_ble_eq_true rfl) dX6_depthOf_2 ⟨Nat.zero_le _, Nat.zero_le _⟩ ?_
  refine zb_if_ne C 14 dX6_depthOf_5 (by decide) (fun q => absurd q (by decide)) (fun _ => ?_)
  refine z_aload_n C dX6_depthOf_8 0 rfl ?_
  refine z_iconst (v := nI 1) C dX6_depthOf_9 (by decide) ?_
  refine zm_call C (mX6_refuse l D κ Ad _ _ _ _ _ _ _ _ 1) gX6_depthOf_X6_refuse rfl rfl rfl hdX6_refuse ⟨Nat.le_of_ble_eq_true rfl, Nat.le_of_ble_eq_true rfl⟩ rfl (Nat.le_of_ble_eq_true rfl) dX6_depthOf_10 ⟨Nat.zero_le _, Nat.zero_le _⟩ ?_
  exact z_iret C hr hk () (rfl) trivial (List.Perm.of_eq rfl) dX6_depthOf_13 (Nat.le_refl _) (Nat.le_refl _)
theorem hdX6_depthOf : yX6_depthOf.cls = RX6 ∧ yX6_depthOf.cls ≠ "java/lang/invoke/MethodHandle" ∧ yX6_depthOf.cls ≠ "java/lang/invoke/VarHandle" ∧ (parseMethodDescriptor yX6_depthOf.desc).map (fun d => d.parameters.length) = some 1 := by decide +kernel
set_option maxRecDepth 100000 in
set_option maxHeartbeats 4000000 in
theorem mX6_depthOf_ok (l : Launch) (D : va_G) (κ : Nat → ClassId) (Ad : Nat → Nat) (eo : Int32) (ip : Nat → Int32) (v nw aw od sv ot : Nat → Nat) (M : Nat) (k : Nat) (hB : Bd M nw) (hk0 : k < nw 1) : mM l yX6_depthOf wsX6_depthOf { frames := 2, cells := 0, slots := 0, locals := 43 } D κ Ad [.int (nI k)] eo ip v nw aw od sv ot (some (.int (nI (nw (5 + 6 * k + 1))))) eo ip (upN v 1 0) nw aw od sv ot := by
  refine zM_of (cc := cX6_depthOf) (maxL := 2) (rt := (some .int)) [(0, .ref (Ad 0)), (1, .int (nI k))] (by decide +kernel) rfl (Nat.le_of_ble_eq_true rfl) rfl ?_
  intro p e s m args below meth c A C hr hk hnm
  have C : zC p s m args c cX6_depthOf 2 wsX6_depthOf RX6 D (zTy κ) A := C
  have hin : ∀ w ∈ wsX60, w ∈ wsX6_depthOf := fun w h => List.mem_cons_of_mem _ (List.mem_append_right _ h)
  have k13 : Cond.fieldLink RX6 13 "PeatRailwayModel" "now" "[I" ∈ wsX6_depthOf := by decide +kernel
  obtain ⟨hM1, hM2, ht0, hnb, hnt, hj, hp⟩ := id hB
  refine z_aload_n C dX6_depthOf_0 0 rfl ?_
  refine z_iload_n C dX6_depthOf_1 1 rfl ?_
  refine zm_call C (mX6_isBlock_k l D κ Ad _ _ _ _ _ _ _ _ M k hB (by omega)) gX6_depthOf_X6_isBlock rfl rfl rfl hdX6_isBlock ⟨Nat.le_of_ble_eq_true rfl, Nat.le_of_ble_eq_true rfl⟩ rfl (Nat.le_of_ble_eq_true rfl) dX6_depthOf_2 ⟨Nat.zero_le _, Nat.zero_le _⟩ ?_
  refine zb_if_ne C 14 dX6_depthOf_5 (by decide) (fun _ => ?_) (fun q => absurd q (by decide))
  refine z_aload_n C dX6_depthOf_14 0 rfl ?_
  refine z_aload_n C dX6_depthOf_15 0 rfl ?_
  refine zm_get_now C hin k13 dX6_depthOf_16 ?_
  refine z_iload_n C dX6_depthOf_19 1 rfl ?_
  refine zs_call C (mX6_b l D κ k) gX6_depthOf_X6_b rfl rfl rfl hdX6_b ⟨Nat.le_of_ble_eq_true rfl, Nat.le_of_ble_eq_true rfl⟩ rfl (Nat.le_of_ble_eq_true rfl) dX6_depthOf_20 ⟨Nat.zero_le _, Nat.zero_le _⟩ ?_
  refine z_iconst (v := nI 1) C dX6_depthOf_23 (by decide) ?_
  refine zn_iadd C dX6_depthOf_24 ?_
  refine zm_ald_now C (by omega) dX6_depthOf_25 ?_
  have g1 : nw ((5 + 6 * k) + 1) ≤ M := hB.j (by omega) (by omega)
  refine zm_call C (mX6_told l D κ Ad _ _ _ _ _ _ _ _ (nI (nw ((5 + 6 * k) + 1)))) gX6_depthOf_X6_told rfl rfl rfl hdX6_told ⟨Nat.le_of_ble_eq_true rfl, Nat.le_of_ble_eq_true rfl⟩ rfl (Nat.le_of_ble_eq_true rfl) dX6_depthOf_26 ⟨Nat.zero_le _, Nat.zero_le _⟩ ?_
  exact z_iret C hr hk () (rfl) trivial (List.Perm.of_eq rfl) dX6_depthOf_29 (Nat.le_refl _) (Nat.le_refl _)
set_option maxRecDepth 100000 in
set_option maxHeartbeats 4000000 in
theorem mX6_limitOf_no (l : Launch) (D : va_G) (κ : Nat → ClassId) (Ad : Nat → Nat) (eo : Int32) (ip : Nat → Int32) (v nw aw od sv ot : Nat → Nat) (M : Nat) (x : Int32)  (hB : Bd M nw) (hx : isB (nw 1) x = false) : mM l yX6_limitOf wsX6_limitOf { frames := 2, cells := 0, slots := 0, locals := 43 } D κ Ad [.int (x)] eo ip v nw aw od sv ot (some (.int (nI 0))) eo ip (upN v 1 1) nw aw od sv ot := by
  refine zM_of (cc := cX6_limitOf) (maxL := 2) (rt := (some .int)) [(0, .ref (Ad 0)), (1, .int (x))] (by decide +kernel) rfl (Nat.le_of_ble_eq_true rfl) rfl ?_
  intro p e s m args below meth c A C hr hk hnm
  have C : zC p s m args c cX6_limitOf 2 wsX6_limitOf RX6 D (zTy κ) A := C
  have hin : ∀ w ∈ wsX60, w ∈ wsX6_limitOf := fun w h => List.mem_cons_of_mem _ (List.mem_append_right _ h)
  have k13 : Cond.fieldLink RX6 13 "PeatRailwayModel" "now" "[I" ∈ wsX6_limitOf := by decide +kernel
  obtain ⟨hM1, hM2, ht0, hnb, hnt, hj, hp⟩ := id hB
  refine z_aload_n C dX6_limitOf_0 0 rfl ?_
  refine z_iload_n C dX6_limitOf_1 1 rfl ?_
  refine zm_call C (mX6_isBlock_no l D κ Ad _ _ _ _ _ _ _ _ M x hB hx) gX6_limitOf_X6_isBlock rfl rfl rfl hdX6_isBlock ⟨Nat.le_of_ble_eq_true rfl, Nat.le_of_ble_eq_true rfl⟩ rfl (Nat.le_of_ble_eq_true rfl) dX6_limitOf_2 ⟨Nat.zero_le _, Nat.zero_le _⟩ ?_
  refine zb_if_ne C 14 dX6_limitOf_5 (by decide) (fun q => absurd q (by decide)) (fun _ => ?_)
  refine z_aload_n C dX6_limitOf_8 0 rfl ?_
  refine z_iconst (v := nI 1) C dX6_limitOf_9 (by decide) ?_
  refine zm_call C (mX6_refuse l D κ Ad _ _ _ _ _ _ _ _ 1) gX6_limitOf_X6_refuse rfl rfl rfl hdX6_refuse ⟨Nat.le_of_ble_eq_true rfl, Nat.le_of_ble_eq_true rfl⟩ rfl (Nat.le_of_ble_eq_true rfl) dX6_limitOf_10 ⟨Nat.zero_le _, Nat.zero_le _⟩ ?_
  exact z_iret C hr hk () (rfl) trivial (List.Perm.of_eq rfl) dX6_limitOf_13 (Nat.le_refl _) (Nat.le_refl _)
theorem hdX6_limitOf : yX6_limitOf.cls = RX6 ∧ yX6_limitOf.cls ≠ "java/lang/invoke/MethodHandle" ∧ yX6_limitOf.cls ≠ "java/lang/invoke/VarHandle" ∧ (parseMethodDescriptor yX6_limitOf.desc).map (fun d => d.parameters.length) = some 1 := by decide +kernel
set_option maxRecDepth 100000 in
set_option maxHeartbeats 4000000 in
theorem mX6_limitOf_ok (l : Launch) (D : va_G) (κ : Nat → ClassId) (Ad : Nat → Nat) (eo : Int32) (ip : Nat → Int32) (v nw aw od sv ot : Nat → Nat) (M : Nat) (k : Nat) (hB : Bd M nw) (hk0 : k < nw 1) : mM l yX6_limitOf wsX6_limitOf { frames := 2, cells := 0, slots := 0, locals := 43 } D κ Ad [.int (nI k)] eo ip v nw aw od sv ot (some (.int (nI (nw (5 + 6 * k + 2))))) eo ip (upN v 1 0) nw aw od sv ot := by
  refine zM_of (cc := cX6_limitOf) (maxL := 2) (rt := (some .int)) [(0, .ref (Ad 0)), (1, .int (nI k))] (by decide +kernel) rfl (Nat.le_of_ble_eq_true rfl) rfl ?_
  intro p e s m args below meth c A C hr hk hnm
  have C : zC p s m args c cX6_limitOf 2 wsX6_limitOf RX6 D (zTy κ) A := C
  have hin : ∀ w ∈ wsX60, w ∈ wsX6_limitOf := fun w h => List.mem_cons_of_mem _ (List.mem_append_right _ h)
  have k13 : Cond.fieldLink RX6 13 "PeatRailwayModel" "now" "[I" ∈ wsX6_limitOf := by decide +kernel
  obtain ⟨hM1, hM2, ht0, hnb, hnt, hj, hp⟩ := id hB
  refine z_aload_n C dX6_limitOf_0 0 rfl ?_
  refine z_iload_n C dX6_limitOf_1 1 rfl ?_
  refine zm_call C (mX6_isBlock_k l D κ Ad _ _ _ _ _ _ _ _ M k hB (by omega)) gX6_limitOf_X6_isBlock rfl rfl rfl hdX6_isBlock ⟨Nat.le_of_ble_eq_true rfl, Nat.le_of_ble_eq_true rfl⟩ rfl (Nat.le_of_ble_eq_true rfl) dX6_limitOf_2 ⟨Nat.zero_le _, Nat.zero_le _⟩ ?_
  refine zb_if_ne C 14 dX6_limitOf_5 (by decide) (fun _ => ?_) (fun q => absurd q (by decide))
  refine z_aload_n C dX6_limitOf_14 0 rfl ?_
  refine z_aload_n C dX6_limitOf_15 0 rfl ?_
  refine zm_get_now C hin k13 dX6_limitOf_16 ?_
  refine z_iload_n C dX6_limitOf_19 1 rfl ?_
  refine zs_call C (mX6_b l D κ k) gX6_limitOf_X6_b rfl rfl rfl hdX6_b ⟨Nat.le_of_ble_eq_true rfl, Nat.le_of_ble_eq_true rfl⟩ rfl (Nat.le_of_ble_eq_true rfl) dX6_limitOf_20 ⟨Nat.zero_le _, Nat.zero_le _⟩ ?_
  refine z_iconst (v := nI 2) C dX6_limitOf_23 (by decide) ?_
  refine zn_iadd C dX6_limitOf_24 ?_
  refine zm_ald_now C (by omega) dX6_limitOf_25 ?_
  have g1 : nw ((5 + 6 * k) + 2) ≤ M := hB.j (by omega) (by omega)
  refine zm_call C (mX6_told l D κ Ad _ _ _ _ _ _ _ _ (nI (nw ((5 + 6 * k) + 2)))) gX6_limitOf_X6_told rfl rfl rfl hdX6_told ⟨Nat.le_of_ble_eq_true rfl, Nat.le_of_ble_eq_true rfl⟩ rfl (Nat.le_of_ble_eq_true rfl) dX6_limitOf_26 ⟨Nat.zero_le _, Nat.zero_le _⟩ ?_
  exact z_iret C hr hk () (rfl) trivial (List.Perm.of_eq rfl) dX6_limitOf_29 (Nat.le_refl _) (Nat.le_refl _)
set_option maxRecDepth 100000 in
set_option maxHeartbeats 4000000 in
theorem mX6_lostIn_no (l : Launch) (D : va_G) (κ : Nat → ClassId) (Ad : Nat → Nat) (eo : Int32) (ip : Nat → Int32) (v nw aw od sv ot : Nat → Nat) (M : Nat) (x : Int32)  (hB : Bd M nw) (hx : isB (nw 1) x = false) : mM l yX6_lostIn wsX6_lostIn { frames := 2, cells := 0, slots := 0, locals := 43 } D κ Ad [.int (x)] eo ip v nw aw od sv ot (some (.int (nI 0))) eo ip (upN v 1 1) nw aw od sv ot := by
  refine zM_of (cc := cX6_lostIn) (maxL := 2) (rt := (some .int)) [(0, .ref (Ad 0)), (1, .int (x))] (by decide +kernel) rfl (Nat.le_of_ble_eq_true rfl) rfl ?_
  intro p e s m args below meth c A C hr hk hnm
  have C : zC p s m args c cX6_lostIn 2 wsX6_lostIn RX6 D (zTy κ) A := C
  have hin : ∀ w ∈ wsX60, w ∈ wsX6_lostIn := fun w h => List.mem_cons_of_mem _ (List.mem_append_right _ h)
  have k13 : Cond.fieldLink RX6 13 "PeatRailwayModel" "now" "[I" ∈ wsX6_lostIn := by decide +kernel
  obtain ⟨hM1, hM2, ht0, hnb, hnt, hj, hp⟩ := id hB
  refine z_aload_n C dX6_lostIn_0 0 rfl ?_
  refine z_iload_n C dX6_lostIn_1 1 rfl ?_
  refine zm_call C (mX6_isBlock_no l D κ Ad _ _ _ _ _ _ _ _ M x hB hx) gX6_lostIn_X6_isBlock rfl rfl rfl hdX6_isBlock ⟨Nat.le_of_ble_eq_true rfl, Nat.le_of_ble_eq_true rfl⟩ rfl (Nat.le_of_ble_eq_true rfl) dX6_lostIn_2 ⟨Nat.zero_le _, Nat.zero_le _⟩ ?_
  refine zb_if_ne C 14 dX6_lostIn_5 (by decide) (fun q => absurd q (by decide)) (fun _ => ?_)
  refine z_aload_n C dX6_lostIn_8 0 rfl ?_
  refine z_iconst (v := nI 1) C dX6_lostIn_9 (by decide) ?_
  refine zm_call C (mX6_refuse l D κ Ad _ _ _ _ _ _ _ _ 1) gX6_lostIn_X6_refuse rfl rfl rfl hdX6_refuse ⟨Nat.le_of_ble_eq_true rfl, Nat.le_of_ble_eq_true rfl⟩ rfl (Nat.le_of_ble_eq_true rfl) dX6_lostIn_10 ⟨Nat.zero_le _, Nat.zero_le _⟩ ?_
  exact z_iret C hr hk () (rfl) trivial (List.Perm.of_eq rfl) dX6_lostIn_13 (Nat.le_refl _) (Nat.le_refl _)
theorem hdX6_lostIn : yX6_lostIn.cls = RX6 ∧ yX6_lostIn.cls ≠ "java/lang/invoke/MethodHandle" ∧ yX6_lostIn.cls ≠ "java/lang/invoke/VarHandle" ∧ (parseMethodDescriptor yX6_lostIn.desc).map (fun d => d.parameters.length) = some 1 := by decide +kernel
set_option maxRecDepth 100000 in
set_option maxHeartbeats 4000000 in
theorem mX6_lostIn_ok (l : Launch) (D : va_G) (κ : Nat → ClassId) (Ad : Nat → Nat) (eo : Int32) (ip : Nat → Int32) (v nw aw od sv ot : Nat → Nat) (M : Nat) (k : Nat) (hB : Bd M nw) (hk0 : k < nw 1) : mM l yX6_lostIn wsX6_lostIn { frames := 2, cells := 0, slots := 0, locals := 43 } D κ Ad [.int (nI k)] eo ip v nw aw od sv ot (some (.int (nI (nw (5 + 6 * k + 5))))) eo ip (upN v 1 0) nw aw od sv ot := by
  refine zM_of (cc := cX6_lostIn) (maxL := 2) (rt := (some .int)) [(0, .ref (Ad 0)), (1, .int (nI k))] (by decide +kernel) rfl (Nat.le_of_ble_eq_true rfl) rfl ?_
  intro p e s m args below meth c A C hr hk hnm
  have C : zC p s m args c cX6_lostIn 2 wsX6_lostIn RX6 D (zTy κ) A := C
  have hin : ∀ w ∈ wsX60, w ∈ wsX6_lostIn := fun w h => List.mem_cons_of_mem _ (List.mem_append_right _ h)
  have k13 : Cond.fieldLink RX6 13 "PeatRailwayModel" "now" "[I" ∈ wsX6_lostIn := by decide +kernel
  obtain ⟨hM1, hM2, ht0, hnb, hnt, hj, hp⟩ := id hB
  refine z_aload_n C dX6_lostIn_0 0 rfl ?_
  refine z_iload_n C dX6_lostIn_1 1 rfl ?_
  refine zm_call C (mX6_isBlock_k l D κ Ad _ _ _ _ _ _ _ _ M k hB (by omega)) gX6_lostIn_X6_isBlock rfl rfl rfl hdX6_isBlock ⟨Nat.le_of_ble_eq_true rfl, Nat.le_of_ble_eq_true rfl⟩ rfl (Nat.le_of_ble_eq_true rfl) dX6_lostIn_2 ⟨Nat.zero_le _, Nat.zero_le _⟩ ?_
  refine zb_if_ne C 14 dX6_lostIn_5 (by decide) (fun _ => ?_) (fun q => absurd q (by decide))
  refine z_aload_n C dX6_lostIn_14 0 rfl ?_
  refine z_aload_n C dX6_lostIn_15 0 rfl ?_
  refine zm_get_now C hin k13 dX6_lostIn_16 ?_
  refine z_iload_n C dX6_lostIn_19 1 rfl ?_
  refine zs_call C (mX6_b l D κ k) gX6_lostIn_X6_b rfl rfl rfl hdX6_b ⟨Nat.le_of_ble_eq_true rfl, Nat.le_of_ble_eq_true rfl⟩ rfl (Nat.le_of_ble_eq_true rfl) dX6_lostIn_20 ⟨Nat.zero_le _, Nat.zero_le _⟩ ?_
  refine z_iconst (v := nI 5) C dX6_lostIn_23 (by decide) ?_
  refine zn_iadd C dX6_lostIn_24 ?_
  refine zm_ald_now C (by omega) dX6_lostIn_25 ?_
  have g1 : nw ((5 + 6 * k) + 5) ≤ M := hB.j (by omega) (by omega)
  refine zm_call C (mX6_told l D κ Ad _ _ _ _ _ _ _ _ (nI (nw ((5 + 6 * k) + 5)))) gX6_lostIn_X6_told rfl rfl rfl hdX6_told ⟨Nat.le_of_ble_eq_true rfl, Nat.le_of_ble_eq_true rfl⟩ rfl (Nat.le_of_ble_eq_true rfl) dX6_lostIn_26 ⟨Nat.zero_le _, Nat.zero_le _⟩ ?_
  exact z_iret C hr hk () (rfl) trivial (List.Perm.of_eq rfl) dX6_lostIn_29 (Nat.le_refl _) (Nat.le_refl _)
set_option maxRecDepth 100000 in
set_option maxHeartbeats 4000000 in
theorem mX6_isBend_no (l : Launch) (D : va_G) (κ : Nat → ClassId) (Ad : Nat → Nat) (eo : Int32) (ip : Nat → Int32) (v nw aw od sv ot : Nat → Nat) (M : Nat) (x : Int32)  (hB : Bd M nw) (hx : isB (nw 1) x = false) : mM l yX6_isBend wsX6_isBend { frames := 2, cells := 0, slots := 0, locals := 43 } D κ Ad [.int (x)] eo ip v nw aw od sv ot (some (.int (nI (false).toNat))) eo ip (upN v 1 1) nw aw od sv ot := by
  refine zM_of (cc := cX6_isBend) (maxL := 2) (rt := (some .boolean)) [(0, .ref (Ad 0)), (1, .int (x))] (by decide +kernel) rfl (Nat.le_of_ble_eq_true rfl) rfl ?_
  intro p e s m args below meth c A C hr hk hnm
  have C : zC p s m args c cX6_isBend 2 wsX6_isBend RX6 D (zTy κ) A := C
  have hin : ∀ w ∈ wsX60, w ∈ wsX6_isBend := fun w h => List.mem_cons_of_mem _ (List.mem_append_right _ h)
  have k13 : Cond.fieldLink RX6 13 "PeatRailwayModel" "now" "[I" ∈ wsX6_isBend := by decide +kernel
  obtain ⟨hM1, hM2, ht0, hnb, hnt, hj, hp⟩ := id hB
  refine z_aload_n C dX6_isBend_0 0 rfl ?_
  refine z_iload_n C dX6_isBend_1 1 rfl ?_
  refine zm_call C (mX6_isBlock_no l D κ Ad _ _ _ _ _ _ _ _ M x hB hx) gX6_isBend_X6_isBlock rfl rfl rfl hdX6_isBlock ⟨Nat.le_of_ble_eq_true rfl, Nat.le_of_ble_eq_true rfl⟩ rfl (Nat.le_of_ble_eq_true rfl) dX6_isBend_2 ⟨Nat.zero_le _, Nat.zero_le _⟩ ?_
  refine zb_if_ne C 13 dX6_isBend_5 (by decide) (fun q => absurd q (by decide)) (fun _ => ?_)
  refine z_aload_n C dX6_isBend_8 0 rfl ?_
  refine zm_call C (mX6_refuses l D κ Ad _ _ _ _ _ _ _ _) gX6_isBend_X6_refuses rfl rfl rfl hdX6_refuses ⟨Nat.le_of_ble_eq_true rfl, Nat.le_of_ble_eq_true rfl⟩ rfl (Nat.le_of_ble_eq_true rfl) dX6_isBend_9 ⟨Nat.zero_le _, Nat.zero_le _⟩ ?_
  exact z_zret C hr hk (zb_nar _) () (rfl) trivial (List.Perm.of_eq rfl) dX6_isBend_12 (Nat.le_refl _) (Nat.le_refl _)
theorem hdX6_isBend : yX6_isBend.cls = RX6 ∧ yX6_isBend.cls ≠ "java/lang/invoke/MethodHandle" ∧ yX6_isBend.cls ≠ "java/lang/invoke/VarHandle" ∧ (parseMethodDescriptor yX6_isBend.desc).map (fun d => d.parameters.length) = some 1 := by decide +kernel
set_option maxRecDepth 100000 in
set_option maxHeartbeats 4000000 in
theorem mX6_isBend_ok (l : Launch) (D : va_G) (κ : Nat → ClassId) (Ad : Nat → Nat) (eo : Int32) (ip : Nat → Int32) (v nw aw od sv ot : Nat → Nat) (M : Nat) (k : Nat) (hB : Bd M nw) (hk0 : k < nw 1) : mM l yX6_isBend wsX6_isBend { frames := 2, cells := 0, slots := 0, locals := 43 } D κ Ad [.int (nI k)] eo ip v nw aw od sv ot (some (.int (nI (decide (nw (5 + 6 * k + 3) = 1)).toNat))) eo ip (upN v 1 0) nw aw od sv ot := by
  refine zM_of (cc := cX6_isBend) (maxL := 2) (rt := (some .boolean)) [(0, .ref (Ad 0)), (1, .int (nI k))] (by decide +kernel) rfl (Nat.le_of_ble_eq_true rfl) rfl ?_
  intro p e s m args below meth c A C hr hk hnm
  have C : zC p s m args c cX6_isBend 2 wsX6_isBend RX6 D (zTy κ) A := C
  have hin : ∀ w ∈ wsX60, w ∈ wsX6_isBend := fun w h => List.mem_cons_of_mem _ (List.mem_append_right _ h)
  have k13 : Cond.fieldLink RX6 13 "PeatRailwayModel" "now" "[I" ∈ wsX6_isBend := by decide +kernel
  obtain ⟨hM1, hM2, ht0, hnb, hnt, hj, hp⟩ := id hB
  refine z_aload_n C dX6_isBend_0 0 rfl ?_
  refine z_iload_n C dX6_isBend_1 1 rfl ?_
  refine zm_call C (mX6_isBlock_k l D κ Ad _ _ _ _ _ _ _ _ M k hB (by omega)) gX6_isBend_X6_isBlock rfl rfl rfl hdX6_isBlock ⟨Nat.le_of_ble_eq_true rfl, Nat.le_of_ble_eq_true rfl⟩ rfl (Nat.le_of_ble_eq_true rfl) dX6_isBend_2 ⟨Nat.zero_le _, Nat.zero_le _⟩ ?_
  refine zb_if_ne C 13 dX6_isBend_5 (by decide) (fun _ => ?_) (fun q => absurd q (by decide))
  refine z_aload_n C dX6_isBend_13 0 rfl ?_
  refine z_aload_n C dX6_isBend_14 0 rfl ?_
  refine zm_get_now C hin k13 dX6_isBend_15 ?_
  refine z_iload_n C dX6_isBend_18 1 rfl ?_
  refine zs_call C (mX6_b l D κ k) gX6_isBend_X6_b rfl rfl rfl hdX6_b ⟨Nat.le_of_ble_eq_true rfl, Nat.le_of_ble_eq_true rfl⟩ rfl (Nat.le_of_ble_eq_true rfl) dX6_isBend_19 ⟨Nat.zero_le _, Nat.zero_le _⟩ ?_
  refine z_iconst (v := nI 3) C dX6_isBend_22 (by decide) ?_
  refine zn_iadd C dX6_isBend_23 ?_
  refine zm_ald_now C (by omega) dX6_isBend_24 ?_
  have g1 : nw ((5 + 6 * k) + 3) ≤ M := hB.j (by omega) (by omega)
  refine z_iconst (v := nI 1) C dX6_isBend_25 (by decide) ?_
  refine zn_icmp_ne C 33 dX6_isBend_26 (by decide) (by omega) (by omega) (fun h2 => ?_) (fun h3 => ?_)
  · refine z_iconst (v := nI 0) C dX6_isBend_33 (by decide) ?_
    refine zm_call C (mX6_says l D κ Ad _ _ _ _ _ _ _ _ (false)) gX6_isBend_X6_says rfl rfl rfl hdX6_says ⟨Nat.le_of_ble_eq_true rfl, Nat.le_of_ble_eq_true rfl⟩ rfl (Nat.le_of_ble_eq_true rfl) dX6_isBend_34 ⟨Nat.zero_le _, Nat.zero_le _⟩ ?_
    exact z_zret C hr hk (zb_nar _) () (congrArg (fun x : Bool => some (Value.int (nI x.toNat))) (show decide (nw (5 + 6 * k + 3) = 1) = false from decide_eq_false h2)) trivial (List.Perm.of_eq rfl) dX6_isBend_37 (Nat.le_refl _) (Nat.le_refl _)
  · refine z_iconst (v := nI 1) C dX6_isBend_29 (by decide) ?_
    refine z_goto (tgt := 34) C dX6_isBend_30 (by decide) ?_
    refine zm_call C (mX6_says l D κ Ad _ _ _ _ _ _ _ _ (true)) gX6_isBend_X6_says rfl rfl rfl hdX6_says ⟨Nat.le_of_ble_eq_true rfl, Nat.le_of_ble_eq_true rfl⟩ rfl (Nat.le_of_ble_eq_true rfl) dX6_isBend_34 ⟨Nat.zero_le _, Nat.zero_le _⟩ ?_
    exact z_zret C hr hk (zb_nar _) () (congrArg (fun x : Bool => some (Value.int (nI x.toNat))) (show decide (nw (5 + 6 * k + 3) = 1) = true from decide_eq_true h3)) trivial (List.Perm.of_eq rfl) dX6_isBend_37 (Nat.le_refl _) (Nat.le_refl _)
set_option maxRecDepth 100000 in
set_option maxHeartbeats 4000000 in
theorem mX6_isClear_no (l : Launch) (D : va_G) (κ : Nat → ClassId) (Ad : Nat → Nat) (eo : Int32) (ip : Nat → Int32) (v nw aw od sv ot : Nat → Nat) (M : Nat) (x : Int32)  (hB : Bd M nw) (hx : isB (nw 1) x = false) : mM l yX6_isClear wsX6_isClear { frames := 2, cells := 0, slots := 0, locals := 43 } D κ Ad [.int (x)] eo ip v nw aw od sv ot (some (.int (nI (false).toNat))) eo ip (upN v 1 1) nw aw od sv ot := by
  refine zM_of (cc := cX6_isClear) (maxL := 2) (rt := (some .boolean)) [(0, .ref (Ad 0)), (1, .int (x))] (by decide +kernel) rfl (Nat.le_of_ble_eq_true rfl) rfl ?_
  intro p e s m args below meth c A C hr hk hnm
  have C : zC p s m args c cX6_isClear 2 wsX6_isClear RX6 D (zTy κ) A := C
  have hin : ∀ w ∈ wsX60, w ∈ wsX6_isClear := fun w h => List.mem_cons_of_mem _ (List.mem_append_right _ h)
  have k13 : Cond.fieldLink RX6 13 "PeatRailwayModel" "now" "[I" ∈ wsX6_isClear := by decide +kernel
  obtain ⟨hM1, hM2, ht0, hnb, hnt, hj, hp⟩ := id hB
  refine z_aload_n C dX6_isClear_0 0 rfl ?_
  refine z_iload_n C dX6_isClear_1 1 rfl ?_
  refine zm_call C (mX6_isBlock_no l D κ Ad _ _ _ _ _ _ _ _ M x hB hx) gX6_isClear_X6_isBlock rfl rfl rfl hdX6_isBlock ⟨Nat.le_of_ble_eq_true rfl, Nat.le_of_ble_eq_true rfl⟩ rfl (Nat.le_of_ble_eq_true rfl) dX6_isClear_2 ⟨Nat.zero_le _, Nat.zero_le _⟩ ?_
  refine zb_if_ne C 13 dX6_isClear_5 (by decide) (fun q => absurd q (by decide)) (fun _ => ?_)
  refine z_aload_n C dX6_isClear_8 0 rfl ?_
  refine zm_call C (mX6_refuses l D κ Ad _ _ _ _ _ _ _ _) gX6_isClear_X6_refuses rfl rfl rfl hdX6_refuses ⟨Nat.le_of_ble_eq_true rfl, Nat.le_of_ble_eq_true rfl⟩ rfl (Nat.le_of_ble_eq_true rfl) dX6_isClear_9 ⟨Nat.zero_le _, Nat.zero_le _⟩ ?_
  exact z_zret C hr hk (zb_nar _) () (rfl) trivial (List.Perm.of_eq rfl) dX6_isClear_12 (Nat.le_refl _) (Nat.le_refl _)
theorem hdX6_isClear : yX6_isClear.cls = RX6 ∧ yX6_isClear.cls ≠ "java/lang/invoke/MethodHandle" ∧ yX6_isClear.cls ≠ "java/lang/invoke/VarHandle" ∧ (parseMethodDescriptor yX6_isClear.desc).map (fun d => d.parameters.length) = some 1 := by decide +kernel
set_option maxRecDepth 100000 in
set_option maxHeartbeats 4000000 in
theorem mX6_isClear_ok (l : Launch) (D : va_G) (κ : Nat → ClassId) (Ad : Nat → Nat) (eo : Int32) (ip : Nat → Int32) (v nw aw od sv ot : Nat → Nat) (M : Nat) (k : Nat) (hB : Bd M nw) (hk0 : k < nw 1) : mM l yX6_isClear wsX6_isClear { frames := 2, cells := 0, slots := 0, locals := 43 } D κ Ad [.int (nI k)] eo ip v nw aw od sv ot (some (.int (nI (decide (nw (5 + 6 * k + 4) = 1)).toNat))) eo ip (upN v 1 0) nw aw od sv ot := by
  refine zM_of (cc := cX6_isClear) (maxL := 2) (rt := (some .boolean)) [(0, .ref (Ad 0)), (1, .int (nI k))] (by decide +kernel) rfl (Nat.le_of_ble_eq_true rfl) rfl ?_
  intro p e s m args below meth c A C hr hk hnm
  have C : zC p s m args c cX6_isClear 2 wsX6_isClear RX6 D (zTy κ) A := C
  have hin : ∀ w ∈ wsX60, w ∈ wsX6_isClear := fun w h => List.mem_cons_of_mem _ (List.mem_append_right _ h)
  have k13 : Cond.fieldLink RX6 13 "PeatRailwayModel" "now" "[I" ∈ wsX6_isClear := by decide +kernel
  obtain ⟨hM1, hM2, ht0, hnb, hnt, hj, hp⟩ := id hB
  refine z_aload_n C dX6_isClear_0 0 rfl ?_
  refine z_iload_n C dX6_isClear_1 1 rfl ?_
  refine zm_call C (mX6_isBlock_k l D κ Ad _ _ _ _ _ _ _ _ M k hB (by omega)) gX6_isClear_X6_isBlock rfl rfl rfl hdX6_isBlock ⟨Nat.le_of_ble_eq_true rfl, Nat.le_of_ble_eq_true rfl⟩ rfl (Nat.le_of_ble_eq_true rfl) dX6_isClear_2 ⟨Nat.zero_le _, Nat.zero_le _⟩ ?_
  refine zb_if_ne C 13 dX6_isClear_5 (by decide) (fun _ => ?_) (fun q => absurd q (by decide))
  refine z_aload_n C dX6_isClear_13 0 rfl ?_
  refine z_aload_n C dX6_isClear_14 0 rfl ?_
  refine zm_get_now C hin k13 dX6_isClear_15 ?_
  refine z_iload_n C dX6_isClear_18 1 rfl ?_
  refine zs_call C (mX6_b l D κ k) gX6_isClear_X6_b rfl rfl rfl hdX6_b ⟨Nat.le_of_ble_eq_true rfl, Nat.le_of_ble_eq_true rfl⟩ rfl (Nat.le_of_ble_eq_true rfl) dX6_isClear_19 ⟨Nat.zero_le _, Nat.zero_le _⟩ ?_
  refine z_iconst (v := nI 4) C dX6_isClear_22 (by decide) ?_
  refine zn_iadd C dX6_isClear_23 ?_
  refine zm_ald_now C (by omega) dX6_isClear_24 ?_
  have g1 : nw ((5 + 6 * k) + 4) ≤ M := hB.j (by omega) (by omega)
  refine z_iconst (v := nI 1) C dX6_isClear_25 (by decide) ?_
  refine zn_icmp_ne C 33 dX6_isClear_26 (by decide) (by omega) (by omega) (fun h2 => ?_) (fun h3 => ?_)
  · refine z_iconst (v := nI 0) C dX6_isClear_33 (by decide) ?_
    refine zm_call C (mX6_says l D κ Ad _ _ _ _ _ _ _ _ (false)) gX6_isClear_X6_says rfl rfl rfl hdX6_says ⟨Nat.le_of_ble_eq_true rfl, Nat.le_of_ble_eq_true rfl⟩ rfl (Nat.le_of_ble_eq_true rfl) dX6_isClear_34 ⟨Nat.zero_le _, Nat.zero_le _⟩ ?_
    exact z_zret C hr hk (zb_nar _) () (congrArg (fun x : Bool => some (Value.int (nI x.toNat))) (show decide (nw (5 + 6 * k + 4) = 1) = false from decide_eq_false h2)) trivial (List.Perm.of_eq rfl) dX6_isClear_37 (Nat.le_refl _) (Nat.le_refl _)
  · refine z_iconst (v := nI 1) C dX6_isClear_29 (by decide) ?_
    refine z_goto (tgt := 34) C dX6_isClear_30 (by decide) ?_
    refine zm_call C (mX6_says l D κ Ad _ _ _ _ _ _ _ _ (true)) gX6_isClear_X6_says rfl rfl rfl hdX6_says ⟨Nat.le_of_ble_eq_true rfl, Nat.le_of_ble_eq_true rfl⟩ rfl (Nat.le_of_ble_eq_true rfl) dX6_isClear_34 ⟨Nat.zero_le _, Nat.zero_le _⟩ ?_
    exact z_zret C hr hk (zb_nar _) () (congrArg (fun x : Bool => some (Value.int (nI x.toNat))) (show decide (nw (5 + 6 * k + 4) = 1) = true from decide_eq_true h3)) trivial (List.Perm.of_eq rfl) dX6_isClear_37 (Nat.le_refl _) (Nat.le_refl _)
set_option maxRecDepth 100000 in
set_option maxHeartbeats 4000000 in
theorem mX6_trainIn_no (l : Launch) (D : va_G) (κ : Nat → ClassId) (Ad : Nat → Nat) (eo : Int32) (ip : Nat → Int32) (v nw aw od sv ot : Nat → Nat) (M : Nat) (x : Int32)  (hB : Bd M nw) (hx : isB (nw 1) x = false) : mM l yX6_trainIn wsX6_trainIn { frames := 2, cells := 0, slots := 0, locals := 43 } D κ Ad [.int (x)] eo ip v nw aw od sv ot (some (.int (nI 0))) eo ip (upN v 1 1) nw aw od sv ot := by
  refine zM_of (cc := cX6_trainIn) (maxL := 2) (rt := (some .int)) [(0, .ref (Ad 0)), (1, .int (x))] (by decide +kernel) rfl (Nat.le_of_ble_eq_true rfl) rfl ?_
  intro p e s m args below meth c A C hr hk hnm
  have C : zC p s m args c cX6_trainIn 2 wsX6_trainIn RX6 D (zTy κ) A := C
  obtain ⟨hM1, hM2, ht0, hnb, hnt, hj, hp⟩ := id hB
  refine z_aload_n C dX6_trainIn_0 0 rfl ?_
  refine z_iload_n C dX6_trainIn_1 1 rfl ?_
  refine zm_call C (mX6_isBlock_no l D κ Ad _ _ _ _ _ _ _ _ M x hB hx) gX6_trainIn_X6_isBlock rfl rfl rfl hdX6_isBlock ⟨Nat.le_of_ble_eq_true rfl, Nat.le_of_ble_eq_true rfl⟩ rfl (Nat.le_of_ble_eq_true rfl) dX6_trainIn_2 ⟨Nat.zero_le _, Nat.zero_le _⟩ ?_
  refine zb_if_ne C 14 dX6_trainIn_5 (by decide) (fun q => absurd q (by decide)) (fun _ => ?_)
  refine z_aload_n C dX6_trainIn_8 0 rfl ?_
  refine z_iconst (v := nI 1) C dX6_trainIn_9 (by decide) ?_
  refine zm_call C (mX6_refuse l D κ Ad _ _ _ _ _ _ _ _ 1) gX6_trainIn_X6_refuse rfl rfl rfl hdX6_refuse ⟨Nat.le_of_ble_eq_true rfl, Nat.le_of_ble_eq_true rfl⟩ rfl (Nat.le_of_ble_eq_true rfl) dX6_trainIn_10 ⟨Nat.zero_le _, Nat.zero_le _⟩ ?_
  exact z_iret C hr hk () (rfl) trivial (List.Perm.of_eq rfl) dX6_trainIn_13 (Nat.le_refl _) (Nat.le_refl _)
theorem hdX6_trainIn : yX6_trainIn.cls = RX6 ∧ yX6_trainIn.cls ≠ "java/lang/invoke/MethodHandle" ∧ yX6_trainIn.cls ≠ "java/lang/invoke/VarHandle" ∧ (parseMethodDescriptor yX6_trainIn.desc).map (fun d => d.parameters.length) = some 1 := by decide +kernel
set_option maxRecDepth 100000 in
set_option maxHeartbeats 4000000 in
theorem mX6_trainIn_ok (l : Launch) (D : va_G) (κ : Nat → ClassId) (Ad : Nat → Nat) (eo : Int32) (ip : Nat → Int32) (v nw aw od sv ot : Nat → Nat) (M : Nat) (k : Nat) (hB : Bd M nw) (hk0 : k < nw 1) : mM l yX6_trainIn wsX6_trainIn { frames := 2, cells := 0, slots := 0, locals := 43 } D κ Ad [.int (nI k)] eo ip v nw aw od sv ot (some (.int (tI (trAt nw k)))) eo ip (upN v 1 0) nw aw od sv ot := by
  refine zM_of (cc := cX6_trainIn) (maxL := 2) (rt := (some .int)) [(0, .ref (Ad 0)), (1, .int (nI k))] (by decide +kernel) rfl (Nat.le_of_ble_eq_true rfl) rfl ?_
  intro p e s m args below meth c A C hr hk hnm
  have C : zC p s m args c cX6_trainIn 2 wsX6_trainIn RX6 D (zTy κ) A := C
  obtain ⟨hM1, hM2, ht0, hnb, hnt, hj, hp⟩ := id hB
  refine z_aload_n C dX6_trainIn_0 0 rfl ?_
  refine z_iload_n C dX6_trainIn_1 1 rfl ?_
  refine zm_call C (mX6_isBlock_k l D κ Ad _ _ _ _ _ _ _ _ M k hB (by omega)) gX6_trainIn_X6_isBlock rfl rfl rfl hdX6_isBlock ⟨Nat.le_of_ble_eq_true rfl, Nat.le_of_ble_eq_true rfl⟩ rfl (Nat.le_of_ble_eq_true rfl) dX6_trainIn_2 ⟨Nat.zero_le _, Nat.zero_le _⟩ ?_
  refine zb_if_ne C 14 dX6_trainIn_5 (by decide) (fun _ => ?_) (fun q => absurd q (by decide))
  refine z_aload_n C dX6_trainIn_14 0 rfl ?_
  refine z_aload_n C dX6_trainIn_15 0 rfl ?_
  refine z_iload_n C dX6_trainIn_16 1 rfl ?_
  refine zm_call C (mX6_trainAt l D κ Ad _ _ _ _ _ _ _ _ M k hB (by omega)) gX6_trainIn_X6_trainAt rfl rfl rfl hdX6_trainAt ⟨Nat.le_of_ble_eq_true rfl, Nat.le_of_ble_eq_true rfl⟩ rfl (Nat.le_of_ble_eq_true rfl) dX6_trainIn_17 ⟨Nat.zero_le _, Nat.zero_le _⟩ ?_
  refine zm_call C (mX6_told l D κ Ad _ _ _ _ _ _ _ _ (tI (trAt nw k))) gX6_trainIn_X6_told rfl rfl rfl hdX6_told ⟨Nat.le_of_ble_eq_true rfl, Nat.le_of_ble_eq_true rfl⟩ rfl (Nat.le_of_ble_eq_true rfl) dX6_trainIn_20 ⟨Nat.zero_le _, Nat.zero_le _⟩ ?_
  exact z_iret C hr hk () (rfl) trivial (List.Perm.of_eq rfl) dX6_trainIn_23 (Nat.le_refl _) (Nat.le_refl _)
set_option maxRecDepth 100000 in
set_option maxHeartbeats 4000000 in
theorem mX6_obstacle_no (l : Launch) (D : va_G) (κ : Nat → ClassId) (Ad : Nat → Nat) (eo : Int32) (ip : Nat → Int32) (v nw aw od sv ot : Nat → Nat) (M : Nat) (x : Int32)  (hB : Bd M nw) (hx : isB (nw 1) x = false) : mM l yX6_obstacle wsX6_obstacle { frames := 4, cells := 0, slots := 0, locals := 84 } D κ Ad [.int (x)] eo ip v nw aw od sv ot (some (.int (nI 0))) eo ip (upN v 1 1) nw aw od sv ot := by
  refine zM_of (cc := cX6_obstacle) (maxL := 2) (rt := (some .int)) [(0, .ref (Ad 0)), (1, .int (x))] (by decide +kernel) rfl (Nat.le_of_ble_eq_true rfl) rfl ?_
  intro p e s m args below meth c A C hr hk hnm
  have C : zC p s m args c cX6_obstacle 2 wsX6_obstacle RX6 D (zTy κ) A := C
  obtain ⟨hM1, hM2, ht0, hnb, hnt, hj, hp⟩ := id hB
  refine z_aload_n C dX6_obstacle_0 0 rfl ?_
  refine z_iload_n C dX6_obstacle_1 1 rfl ?_
  refine zm_call C (mX6_isBlock_no l D κ Ad _ _ _ _ _ _ _ _ M x hB hx) gX6_obstacle_X6_isBlock rfl rfl rfl hdX6_isBlock ⟨Nat.le_of_ble_eq_true rfl, Nat.le_of_ble_eq_true rfl⟩ rfl (Nat.le_of_ble_eq_true rfl) dX6_obstacle_2 ⟨Nat.zero_le _, Nat.zero_le _⟩ ?_
  refine zb_if_ne C 14 dX6_obstacle_5 (by decide) (fun q => absurd q (by decide)) (fun _ => ?_)
  refine z_aload_n C dX6_obstacle_8 0 rfl ?_
  refine z_iconst (v := nI 1) C dX6_obstacle_9 (by decide) ?_
  refine zm_call C (mX6_refuse l D κ Ad _ _ _ _ _ _ _ _ 1) gX6_obstacle_X6_refuse rfl rfl rfl hdX6_refuse ⟨Nat.le_of_ble_eq_true rfl, Nat.le_of_ble_eq_true rfl⟩ rfl (Nat.le_of_ble_eq_true rfl) dX6_obstacle_10 ⟨Nat.zero_le _, Nat.zero_le _⟩ ?_
  exact z_iret C hr hk () (rfl) trivial (List.Perm.of_eq rfl) dX6_obstacle_13 (Nat.le_refl _) (Nat.le_refl _)
theorem hdX6_obstacle : yX6_obstacle.cls = RX6 ∧ yX6_obstacle.cls ≠ "java/lang/invoke/MethodHandle" ∧ yX6_obstacle.cls ≠ "java/lang/invoke/VarHandle" ∧ (parseMethodDescriptor yX6_obstacle.desc).map (fun d => d.parameters.length) = some 1 := by decide +kernel
set_option maxRecDepth 100000 in
set_option maxHeartbeats 4000000 in
theorem mX6_obstacle_ok (l : Launch) (D : va_G) (κ : Nat → ClassId) (Ad : Nat → Nat) (eo : Int32) (ip : Nat → Int32) (v nw aw od sv ot : Nat → Nat) (M : Nat) (k : Nat) (hB : Bd M nw) (hk0 : k < nw 1) : mM l yX6_obstacle wsX6_obstacle { frames := 4, cells := 0, slots := 0, locals := 84 } D κ Ad [.int (nI k)] eo ip v nw aw od sv ot (some (.int (nI (rsn nw k)))) eo ip (upN v 1 0) nw aw od sv ot := by
  refine zM_of (cc := cX6_obstacle) (maxL := 2) (rt := (some .int)) [(0, .ref (Ad 0)), (1, .int (nI k))] (by decide +kernel) rfl (Nat.le_of_ble_eq_true rfl) rfl ?_
  intro p e s m args below meth c A C hr hk hnm
  have C : zC p s m args c cX6_obstacle 2 wsX6_obstacle RX6 D (zTy κ) A := C
  obtain ⟨hM1, hM2, ht0, hnb, hnt, hj, hp⟩ := id hB
  refine z_aload_n C dX6_obstacle_0 0 rfl ?_
  refine z_iload_n C dX6_obstacle_1 1 rfl ?_
  refine zm_call C (mX6_isBlock_k l D κ Ad _ _ _ _ _ _ _ _ M k hB (by omega)) gX6_obstacle_X6_isBlock rfl rfl rfl hdX6_isBlock ⟨Nat.le_of_ble_eq_true rfl, Nat.le_of_ble_eq_true rfl⟩ rfl (Nat.le_of_ble_eq_true rfl) dX6_obstacle_2 ⟨Nat.zero_le _, Nat.zero_le _⟩ ?_
  refine zb_if_ne C 14 dX6_obstacle_5 (by decide) (fun _ => ?_) (fun q => absurd q (by decide))
  refine z_aload_n C dX6_obstacle_14 0 rfl ?_
  refine z_aload_n C dX6_obstacle_15 0 rfl ?_
  refine z_iload_n C dX6_obstacle_16 1 rfl ?_
  refine zm_call C (mX6_reason l D κ Ad _ _ _ _ _ _ _ _ M k hB (by omega)) gX6_obstacle_X6_reason rfl rfl rfl hdX6_reason ⟨Nat.le_of_ble_eq_true rfl, Nat.le_of_ble_eq_true rfl⟩ rfl (Nat.le_of_ble_eq_true rfl) dX6_obstacle_17 ⟨Nat.zero_le _, Nat.zero_le _⟩ ?_
  refine zm_call C (mX6_told l D κ Ad _ _ _ _ _ _ _ _ (nI (rsn nw k))) gX6_obstacle_X6_told rfl rfl rfl hdX6_told ⟨Nat.le_of_ble_eq_true rfl, Nat.le_of_ble_eq_true rfl⟩ rfl (Nat.le_of_ble_eq_true rfl) dX6_obstacle_20 ⟨Nat.zero_le _, Nat.zero_le _⟩ ?_
  exact z_iret C hr hk () (rfl) trivial (List.Perm.of_eq rfl) dX6_obstacle_23 (Nat.le_refl _) (Nat.le_refl _)
set_option maxRecDepth 100000 in
set_option maxHeartbeats 4000000 in
theorem mX6_departuresFrom_no (l : Launch) (D : va_G) (κ : Nat → ClassId) (Ad : Nat → Nat) (eo : Int32) (ip : Nat → Int32) (v nw aw od sv ot : Nat → Nat) (M : Nat) (x : Int32)  (hB : Bd M nw) (hx : isB (nw 1) x = false) : mM l yX6_departuresFrom wsX6_departuresFrom { frames := 2, cells := 0, slots := 0, locals := 43 } D κ Ad [.int (x)] eo ip v nw aw od sv ot (some (.int (nI 0))) eo ip (upN v 1 1) nw aw od sv ot := by
  refine zM_of (cc := cX6_departuresFrom) (maxL := 4) (rt := (some .int)) [(0, .ref (Ad 0)), (1, .int (x))] (by decide +kernel) rfl (Nat.le_of_ble_eq_true rfl) rfl ?_
  intro p e s m args below meth c A C hr hk hnm
  have C : zC p s m args c cX6_departuresFrom 4 wsX6_departuresFrom RX6 D (zTy κ) A := C
  have hin : ∀ w ∈ wsX60, w ∈ wsX6_departuresFrom := fun w h => List.mem_cons_of_mem _ (List.mem_append_right _ h)
  have k13 : Cond.fieldLink RX6 13 "PeatRailwayModel" "now" "[I" ∈ wsX6_departuresFrom := by decide +kernel
  obtain ⟨hM1, hM2, ht0, hnb, hnt, hj, hp⟩ := id hB
  refine z_aload_n C dX6_departuresFrom_0 0 rfl ?_
  refine z_iload_n C dX6_departuresFrom_1 1 rfl ?_
  refine zm_call C (mX6_isBlock_no l D κ Ad _ _ _ _ _ _ _ _ M x hB hx) gX6_departuresFrom_X6_isBlock rfl rfl rfl hdX6_isBlock ⟨Nat.le_of_ble_eq_true rfl, Nat.le_of_ble_eq_true rfl⟩ rfl (Nat.le_of_ble_eq_true rfl) dX6_departuresFrom_2 ⟨Nat.zero_le _, Nat.zero_le _⟩ ?_
  refine zb_if_ne C 14 dX6_departuresFrom_5 (by decide) (fun q => absurd q (by decide)) (fun _ => ?_)
  refine z_aload_n C dX6_departuresFrom_8 0 rfl ?_
  refine z_iconst (v := nI 1) C dX6_departuresFrom_9 (by decide) ?_
  refine zm_call C (mX6_refuse l D κ Ad _ _ _ _ _ _ _ _ 1) gX6_departuresFrom_X6_refuse rfl rfl rfl hdX6_refuse ⟨Nat.le_of_ble_eq_true rfl, Nat.le_of_ble_eq_true rfl⟩ rfl (Nat.le_of_ble_eq_true rfl) dX6_departuresFrom_10 ⟨Nat.zero_le _, Nat.zero_le _⟩ ?_
  exact z_iret C hr hk () (rfl) trivial (List.Perm.of_eq rfl) dX6_departuresFrom_13 (Nat.le_refl _) (Nat.le_refl _)
theorem hdX6_departuresFrom : yX6_departuresFrom.cls = RX6 ∧ yX6_departuresFrom.cls ≠ "java/lang/invoke/MethodHandle" ∧ yX6_departuresFrom.cls ≠ "java/lang/invoke/VarHandle" ∧ (parseMethodDescriptor yX6_departuresFrom.desc).map (fun d => d.parameters.length) = some 1 := by decide +kernel
set_option maxRecDepth 100000 in
set_option maxHeartbeats 4000000 in
theorem mX6_departuresFrom_ok (l : Launch) (D : va_G) (κ : Nat → ClassId) (Ad : Nat → Nat) (eo : Int32) (ip : Nat → Int32) (v nw aw od sv ot : Nat → Nat) (M : Nat) (b : Nat) (hB : Bd M nw) (hk0 : b < nw 1) : mM l yX6_departuresFrom wsX6_departuresFrom { frames := 2, cells := 0, slots := 0, locals := 43 } D κ Ad [.int (nI b)] eo ip v nw aw od sv ot (some (.int (nI (sumL (fun i => nw (90 + 10 * i + b)) (nw 2))))) eo ip (upN v 1 0) nw aw od sv ot := by
  refine zM_of (cc := cX6_departuresFrom) (maxL := 4) (rt := (some .int)) [(0, .ref (Ad 0)), (1, .int (nI b))] (by decide +kernel) rfl (Nat.le_of_ble_eq_true rfl) rfl ?_
  intro p e s m args below meth c A C hr hk hnm
  have C : zC p s m args c cX6_departuresFrom 4 wsX6_departuresFrom RX6 D (zTy κ) A := C
  have hin : ∀ w ∈ wsX60, w ∈ wsX6_departuresFrom := fun w h => List.mem_cons_of_mem _ (List.mem_append_right _ h)
  have k13 : Cond.fieldLink RX6 13 "PeatRailwayModel" "now" "[I" ∈ wsX6_departuresFrom := by decide +kernel
  obtain ⟨hM1, hM2, ht0, hnb, hnt, hj, hp⟩ := id hB
  refine z_aload_n C dX6_departuresFrom_0 0 rfl ?_
  refine z_iload_n C dX6_departuresFrom_1 1 rfl ?_
  refine zm_call C (mX6_isBlock_k l D κ Ad _ _ _ _ _ _ _ _ M b hB (by omega)) gX6_departuresFrom_X6_isBlock rfl rfl rfl hdX6_isBlock ⟨Nat.le_of_ble_eq_true rfl, Nat.le_of_ble_eq_true rfl⟩ rfl (Nat.le_of_ble_eq_true rfl) dX6_departuresFrom_2 ⟨Nat.zero_le _, Nat.zero_le _⟩ ?_
  refine zb_if_ne C 14 dX6_departuresFrom_5 (by decide) (fun _ => ?_) (fun q => absurd q (by decide))
  refine z_iconst (v := nI 0) C dX6_departuresFrom_14 (by decide) ?_
  refine z_istore_n C [(2, .int (nI 0)), (0, .ref (Ad 0)), (1, .int (nI b))] dX6_departuresFrom_15 (by decide) rfl ?_
  refine z_iconst (v := nI 0) C dX6_departuresFrom_16 (by decide) ?_
  refine z_istore_n C [(3, .int (nI 0)), (2, .int (nI 0)), (0, .ref (Ad 0)), (1, .int (nI b))] dX6_departuresFrom_17 (by decide) rfl ?_
  refine z_lv [2, 3, 1, 0] rfl ?_
  refine z_loop (σ := Nat × Nat) (fun x => MW κ Ad eo ip v nw aw od sv ot) (fun x => [(0, .ref (Ad 0)), (1, .int (nI b)), (2, .int (nI x.2)), (3, .int (nI x.1))]) (fun x => x.1 ≤ nw 2 ∧ x.2 = sumL (fun i => nw (90 + 10 * i + b)) x.1) (fun x => nw 2 - x.1) ((0, 0)) (⟨Nat.zero_le _, rfl⟩) rfl rfl ?_
  rintro ⟨k, E⟩ hI18 ih18
  dsimp only at hI18 ih18 ⊢
  obtain ⟨hk1, hk2⟩ := hI18
  refine z_iload_n C dX6_departuresFrom_18 3 rfl ?_
  refine z_aload_n C dX6_departuresFrom_19 0 rfl ?_
  refine zm_get_now C hin k13 dX6_departuresFrom_20 ?_
  refine z_iconst (v := nI 2) C dX6_departuresFrom_23 (by decide) ?_
  refine zm_ald_now C (by omega) dX6_departuresFrom_24 ?_
  refine zn_icmp_ge C 47 dX6_departuresFrom_25 (by decide) (by omega) (by omega) (fun h1 => ?_) (fun h2 => ?_)
  · refine z_aload_n C dX6_departuresFrom_47 0 rfl ?_
    refine z_iload_n C dX6_departuresFrom_48 2 rfl ?_
    refine zm_call C (mX6_told l D κ Ad _ _ _ _ _ _ _ _ (nI E)) gX6_departuresFrom_X6_told rfl rfl rfl hdX6_told ⟨Nat.le_of_ble_eq_true rfl, Nat.le_of_ble_eq_true rfl⟩ rfl (Nat.le_of_ble_eq_true rfl) dX6_departuresFrom_49 ⟨Nat.zero_le _, Nat.zero_le _⟩ ?_
    exact z_iret C hr hk () (congrArg (fun x : Nat => some (Value.int (nI x))) (show sumL (fun i => nw (90 + 10 * i + b)) (nw 2) = E by rw [hk2, show nw 2 = k by omega])) trivial (List.Perm.of_eq rfl) dX6_departuresFrom_52 (Nat.le_refl _) (Nat.le_refl _)
  · refine z_iload_n C dX6_departuresFrom_28 2 rfl ?_
    refine z_aload_n C dX6_departuresFrom_29 0 rfl ?_
    refine zm_get_now C hin k13 dX6_departuresFrom_30 ?_
    refine z_iload_n C dX6_departuresFrom_33 3 rfl ?_
    refine z_iload_n C dX6_departuresFrom_34 1 rfl ?_
    refine zs_call C (mX6_passed l D κ k b) gX6_departuresFrom_X6_passed rfl rfl rfl hdX6_passed ⟨Nat.le_of_ble_eq_true rfl, Nat.le_of_ble_eq_true rfl⟩ rfl (Nat.le_of_ble_eq_true rfl) dX6_departuresFrom_35 ⟨Nat.zero_le _, Nat.zero_le _⟩ ?_
    refine zm_ald_now C (by omega) dX6_departuresFrom_38 ?_
    have g3 : nw (90 + 10 * k + b) ≤ M := hB.j (by omega) (by omega)
    refine zn_iadd C dX6_departuresFrom_39 ?_
    refine z_istore_n C [(2, .int (nI (E + (nw (90 + 10 * k + b))))), (0, .ref (Ad 0)), (1, .int (nI b)), (3, .int (nI k))] dX6_departuresFrom_40 (by decide) rfl ?_
    refine zn_iinc (n := 1) C [(3, .int (nI (k + 1))), (2, .int (nI (E + (nw (90 + 10 * k + b))))), (0, .ref (Ad 0)), (1, .int (nI b))] dX6_departuresFrom_41 3 rfl (by decide) rfl ?_
    refine z_goto (tgt := 18) C dX6_departuresFrom_44 (by decide) ?_
    refine z_lv [2, 3, 1, 0] rfl ?_
    exact ih18 (k + 1, (E + (nw (90 + 10 * k + b)))) ⟨by dsimp only; omega, by dsimp only; rw [hk2]; rfl⟩ (by dsimp only; omega)
set_option maxRecDepth 100000 in
set_option maxHeartbeats 4000000 in
theorem mX6_freeLevers (l : Launch) (D : va_G) (κ : Nat → ClassId) (Ad : Nat → Nat) (eo : Int32) (ip : Nat → Int32) (v nw aw od sv ot : Nat → Nat) (M : Nat)  (hB : Bd M nw) : mM l yX6_freeLevers wsX6_freeLevers { frames := 4, cells := 0, slots := 0, locals := 84 } D κ Ad [] eo ip v nw aw od sv ot (some (.int (nI (sumL (fun i => if rsn nw i = 0 then 1 else 0) (nw 1))))) eo ip (upN v 1 0) nw aw od sv ot := by
  refine zM_of (cc := cX6_freeLevers) (maxL := 3) (rt := (some .int)) [(0, .ref (Ad 0))] (by decide +kernel) rfl (Nat.le_of_ble_eq_true rfl) rfl ?_
  intro p e s m args below meth c A C hr hk hnm
  have C : zC p s m args c cX6_freeLevers 3 wsX6_freeLevers RX6 D (zTy κ) A := C
  have hin : ∀ w ∈ wsX60, w ∈ wsX6_freeLevers := fun w h => List.mem_cons_of_mem _ (List.mem_append_right _ h)
  have k13 : Cond.fieldLink RX6 13 "PeatRailwayModel" "now" "[I" ∈ wsX6_freeLevers := by decide +kernel
  obtain ⟨hM1, hM2, ht0, hnb, hnt, hj, hp⟩ := id hB
  refine z_iconst (v := nI 0) C dX6_freeLevers_0 (by decide) ?_
  refine z_istore_n C [(1, .int (nI 0)), (0, .ref (Ad 0))] dX6_freeLevers_1 (by decide) rfl ?_
  refine z_iconst (v := nI 0) C dX6_freeLevers_2 (by decide) ?_
  refine z_istore_n C [(2, .int (nI 0)), (1, .int (nI 0)), (0, .ref (Ad 0))] dX6_freeLevers_3 (by decide) rfl ?_
  refine z_lv [2, 1, 0] rfl ?_
  refine z_loop (σ := Nat × Nat) (fun x => MW κ Ad eo ip v nw aw od sv ot) (fun x => [(0, .ref (Ad 0)), (1, .int (nI x.2)), (2, .int (nI x.1))]) (fun x => x.1 ≤ nw 1 ∧ x.2 = sumL (fun i => if rsn nw i = 0 then 1 else 0) x.1) (fun x => nw 1 - x.1) ((0, 0)) (⟨Nat.zero_le _, rfl⟩) rfl rfl ?_
  rintro ⟨k, E⟩ hI4 ih4
  dsimp only at hI4 ih4 ⊢
  obtain ⟨hk1, hk2⟩ := hI4
  refine z_iload_n C dX6_freeLevers_4 2 rfl ?_
  refine z_aload_n C dX6_freeLevers_5 0 rfl ?_
  refine zm_get_now C hin k13 dX6_freeLevers_6 ?_
  refine z_iconst (v := nI 1) C dX6_freeLevers_9 (by decide) ?_
  refine zm_ald_now C (by omega) dX6_freeLevers_10 ?_
  refine zn_icmp_ge C 31 dX6_freeLevers_11 (by decide) (by omega) (by omega) (fun h1 => ?_) (fun h2 => ?_)
  · refine z_aload_n C dX6_freeLevers_31 0 rfl ?_
    refine z_iload_n C dX6_freeLevers_32 1 rfl ?_
    refine zm_call C (mX6_told l D κ Ad _ _ _ _ _ _ _ _ (nI E)) gX6_freeLevers_X6_told rfl rfl rfl hdX6_told ⟨Nat.le_of_ble_eq_true rfl, Nat.le_of_ble_eq_true rfl⟩ rfl (Nat.le_of_ble_eq_true rfl) dX6_freeLevers_33 ⟨Nat.zero_le _, Nat.zero_le _⟩ ?_
    exact z_iret C hr hk () (congrArg (fun x : Nat => some (Value.int (nI x))) (show sumL (fun i => if rsn nw i = 0 then 1 else 0) (nw 1) = E by rw [hk2, show nw 1 = k by omega])) trivial (List.Perm.of_eq rfl) dX6_freeLevers_36 (Nat.le_refl _) (Nat.le_refl _)
  · refine z_aload_n C dX6_freeLevers_14 0 rfl ?_
    refine z_iload_n C dX6_freeLevers_15 2 rfl ?_
    have hrs := rsn_le nw k
    refine zm_call C (mX6_reason l D κ Ad _ _ _ _ _ _ _ _ M k hB (by omega)) gX6_freeLevers_X6_reason rfl rfl rfl hdX6_reason ⟨Nat.le_of_ble_eq_true rfl, Nat.le_of_ble_eq_true rfl⟩ rfl (Nat.le_of_ble_eq_true rfl) dX6_freeLevers_16 ⟨Nat.zero_le _, Nat.zero_le _⟩ ?_
    refine zn_if_ne C 25 dX6_freeLevers_19 (by decide) (by omega) (fun h3 => ?_) (fun h4 => ?_)
    · refine zn_iinc (n := 1) C [(2, .int (nI (k + 1))), (0, .ref (Ad 0)), (1, .int (nI E))] dX6_freeLevers_25 2 rfl (by decide) rfl ?_
      refine z_goto (tgt := 4) C dX6_freeLevers_28 (by decide) ?_
      refine z_lv [1, 2, 0] rfl ?_
      exact ih4 (k + 1, E) ⟨by dsimp only; omega, by dsimp only; rw [hk2]; simp only [sumL]; rw [if_neg (by omega)]; rfl⟩ (by dsimp only; omega)
    · refine zn_iinc (n := 1) C [(1, .int (nI (E + 1))), (0, .ref (Ad 0)), (2, .int (nI k))] dX6_freeLevers_22 1 rfl (by decide) rfl ?_
      refine zn_iinc (n := 1) C [(2, .int (nI (k + 1))), (1, .int (nI (E + 1))), (0, .ref (Ad 0))] dX6_freeLevers_25 2 rfl (by decide) rfl ?_
      refine z_goto (tgt := 4) C dX6_freeLevers_28 (by decide) ?_
      refine z_lv [2, 1, 0] rfl ?_
      exact ih4 (k + 1, (E + 1)) ⟨by dsimp only; omega, by dsimp only; rw [hk2]; simp only [sumL]; rw [if_pos h4]⟩ (by dsimp only; omega)
theorem hdX6_freeLevers : yX6_freeLevers.cls = RX6 ∧ yX6_freeLevers.cls ≠ "java/lang/invoke/MethodHandle" ∧ yX6_freeLevers.cls ≠ "java/lang/invoke/VarHandle" ∧ (parseMethodDescriptor yX6_freeLevers.desc).map (fun d => d.parameters.length) = some 0 := by decide +kernel
set_option maxRecDepth 100000 in
set_option maxHeartbeats 4000000 in
theorem mX6_emptyBlocks (l : Launch) (D : va_G) (κ : Nat → ClassId) (Ad : Nat → Nat) (eo : Int32) (ip : Nat → Int32) (v nw aw od sv ot : Nat → Nat) (M : Nat)  (hB : Bd M nw) : mM l yX6_emptyBlocks wsX6_emptyBlocks { frames := 3, cells := 0, slots := 0, locals := 63 } D κ Ad [] eo ip v nw aw od sv ot (some (.int (nI (sumL (fun i => (!occ nw i).toNat) (nw 1))))) eo ip (upN v 1 0) nw aw od sv ot := by
  refine zM_of (cc := cX6_emptyBlocks) (maxL := 3) (rt := (some .int)) [(0, .ref (Ad 0))] (by decide +kernel) rfl (Nat.le_of_ble_eq_true rfl) rfl ?_
  intro p e s m args below meth c A C hr hk hnm
  have C : zC p s m args c cX6_emptyBlocks 3 wsX6_emptyBlocks RX6 D (zTy κ) A := C
  have hin : ∀ w ∈ wsX60, w ∈ wsX6_emptyBlocks := fun w h => List.mem_cons_of_mem _ (List.mem_append_right _ h)
  have k13 : Cond.fieldLink RX6 13 "PeatRailwayModel" "now" "[I" ∈ wsX6_emptyBlocks := by decide +kernel
  obtain ⟨hM1, hM2, ht0, hnb, hnt, hj, hp⟩ := id hB
  refine z_iconst (v := nI 0) C dX6_emptyBlocks_0 (by decide) ?_
  refine z_istore_n C [(1, .int (nI 0)), (0, .ref (Ad 0))] dX6_emptyBlocks_1 (by decide) rfl ?_
  refine z_iconst (v := nI 0) C dX6_emptyBlocks_2 (by decide) ?_
  refine z_istore_n C [(2, .int (nI 0)), (1, .int (nI 0)), (0, .ref (Ad 0))] dX6_emptyBlocks_3 (by decide) rfl ?_
  refine z_lv [2, 1, 0] rfl ?_
  refine z_loop (σ := Nat × Nat) (fun x => MW κ Ad eo ip v nw aw od sv ot) (fun x => [(0, .ref (Ad 0)), (1, .int (nI x.2)), (2, .int (nI x.1))]) (fun x => x.1 ≤ nw 1 ∧ x.2 = sumL (fun i => (!occ nw i).toNat) x.1) (fun x => nw 1 - x.1) ((0, 0)) (⟨Nat.zero_le _, rfl⟩) rfl rfl ?_
  rintro ⟨k, E⟩ hI4 ih4
  dsimp only at hI4 ih4 ⊢
  obtain ⟨hk1, hk2⟩ := hI4
  refine z_iload_n C dX6_emptyBlocks_4 2 rfl ?_
  refine z_aload_n C dX6_emptyBlocks_5 0 rfl ?_
  refine zm_get_now C hin k13 dX6_emptyBlocks_6 ?_
  refine z_iconst (v := nI 1) C dX6_emptyBlocks_9 (by decide) ?_
  refine zm_ald_now C (by omega) dX6_emptyBlocks_10 ?_
  refine zn_icmp_ge C 31 dX6_emptyBlocks_11 (by decide) (by omega) (by omega) (fun h1 => ?_) (fun h2 => ?_)
  · refine z_aload_n C dX6_emptyBlocks_31 0 rfl ?_
    refine z_iload_n C dX6_emptyBlocks_32 1 rfl ?_
    refine zm_call C (mX6_told l D κ Ad _ _ _ _ _ _ _ _ (nI E)) gX6_emptyBlocks_X6_told rfl rfl rfl hdX6_told ⟨Nat.le_of_ble_eq_true rfl, Nat.le_of_ble_eq_true rfl⟩ rfl (Nat.le_of_ble_eq_true rfl) dX6_emptyBlocks_33 ⟨Nat.zero_le _, Nat.zero_le _⟩ ?_
    exact z_iret C hr hk () (congrArg (fun x : Nat => some (Value.int (nI x))) (show sumL (fun i => (!occ nw i).toNat) (nw 1) = E by rw [hk2, show nw 1 = k by omega])) trivial (List.Perm.of_eq rfl) dX6_emptyBlocks_36 (Nat.le_refl _) (Nat.le_refl _)
  · refine z_aload_n C dX6_emptyBlocks_14 0 rfl ?_
    refine z_iload_n C dX6_emptyBlocks_15 2 rfl ?_
    refine zm_call C (mX6_isOccupied l D κ Ad _ _ _ _ _ _ _ _ M k hB (by omega)) gX6_emptyBlocks_X6_isOccupied rfl rfl rfl hdX6_isOccupied ⟨Nat.le_of_ble_eq_true rfl, Nat.le_of_ble_eq_true rfl⟩ rfl (Nat.le_of_ble_eq_true rfl) dX6_emptyBlocks_16 ⟨Nat.zero_le _, Nat.zero_le _⟩ ?_
    refine zb_if_ne C 25 dX6_emptyBlocks_19 (by decide) (fun h3 => ?_) (fun h4 => ?_)
    · refine zn_iinc (n := 1) C [(2, .int (nI (k + 1))), (0, .ref (Ad 0)), (1, .int (nI E))] dX6_emptyBlocks_25 2 rfl (by decide) rfl ?_
      refine z_goto (tgt := 4) C dX6_emptyBlocks_28 (by decide) ?_
      refine z_lv [1, 2, 0] rfl ?_
      exact ih4 (k + 1, E) ⟨by dsimp only; omega, by dsimp only; rw [hk2]; simp only [sumL]; rw [h3]; rfl⟩ (by dsimp only; omega)
    · refine zn_iinc (n := 1) C [(1, .int (nI (E + 1))), (0, .ref (Ad 0)), (2, .int (nI k))] dX6_emptyBlocks_22 1 rfl (by decide) rfl ?_
      refine zn_iinc (n := 1) C [(2, .int (nI (k + 1))), (1, .int (nI (E + 1))), (0, .ref (Ad 0))] dX6_emptyBlocks_25 2 rfl (by decide) rfl ?_
      refine z_goto (tgt := 4) C dX6_emptyBlocks_28 (by decide) ?_
      refine z_lv [2, 1, 0] rfl ?_
      exact ih4 (k + 1, (E + 1)) ⟨by dsimp only; omega, by dsimp only; rw [hk2]; simp only [sumL]; rw [h4]; rfl⟩ (by dsimp only; omega)
theorem hdX6_emptyBlocks : yX6_emptyBlocks.cls = RX6 ∧ yX6_emptyBlocks.cls ≠ "java/lang/invoke/MethodHandle" ∧ yX6_emptyBlocks.cls ≠ "java/lang/invoke/VarHandle" ∧ (parseMethodDescriptor yX6_emptyBlocks.desc).map (fun d => d.parameters.length) = some 0 := by decide +kernel
set_option maxRecDepth 100000 in
set_option maxHeartbeats 4000000 in
theorem mX6_deepestBlock (l : Launch) (D : va_G) (κ : Nat → ClassId) (Ad : Nat → Nat) (eo : Int32) (ip : Nat → Int32) (v nw aw od sv ot : Nat → Nat) (M : Nat)  (hB : Bd M nw) : mM l yX6_deepestBlock wsX6_deepestBlock { frames := 1, cells := 0, slots := 0, locals := 21 } D κ Ad [] eo ip v nw aw od sv ot (some (.int (tI (dpL nw (nw 1))))) eo ip (upN v 1 0) nw aw od sv ot := by
  refine zM_of (cc := cX6_deepestBlock) (maxL := 3) (rt := (some .int)) [(0, .ref (Ad 0))] (by decide +kernel) rfl (Nat.le_of_ble_eq_true rfl) rfl ?_
  intro p e s m args below meth c A C hr hk hnm
  have C : zC p s m args c cX6_deepestBlock 3 wsX6_deepestBlock RX6 D (zTy κ) A := C
  have hin : ∀ w ∈ wsX60, w ∈ wsX6_deepestBlock := fun w h => List.mem_cons_of_mem _ (List.mem_append_right _ h)
  have k13 : Cond.fieldLink RX6 13 "PeatRailwayModel" "now" "[I" ∈ wsX6_deepestBlock := by decide +kernel
  obtain ⟨hM1, hM2, ht0, hnb, hnt, hj, hp⟩ := id hB
  refine z_iconst (v := (-1)) C dX6_deepestBlock_0 (by decide) ?_
  refine z_istore_n C [(1, .int ((-1 : Int32))), (0, .ref (Ad 0))] dX6_deepestBlock_1 (by decide) rfl ?_
  refine z_iconst (v := nI 0) C dX6_deepestBlock_2 (by decide) ?_
  refine z_istore_n C [(2, .int (nI 0)), (1, .int ((-1 : Int32))), (0, .ref (Ad 0))] dX6_deepestBlock_3 (by decide) rfl ?_
  refine z_lv [2, 1, 0] rfl ?_
  refine z_loop (σ := Nat × Nat) (fun x => MW κ Ad eo ip v nw aw od sv ot) (fun x => [(0, .ref (Ad 0)), (1, .int (tI (x.2))), (2, .int (nI x.1))]) (fun x => x.1 ≤ nw 1 ∧ x.2 = dpL nw x.1) (fun x => nw 1 - x.1) ((0, 0)) (⟨Nat.zero_le _, rfl⟩) rfl rfl ?_
  rintro ⟨k, B⟩ hI4 ih4
  dsimp only at hI4 ih4 ⊢
  obtain ⟨hk1, hk2⟩ := hI4
  have hd : B ≤ k := by rw [hk2]; exact dpL_le nw k
  refine z_iload_n C dX6_deepestBlock_4 2 rfl ?_
  refine z_aload_n C dX6_deepestBlock_5 0 rfl ?_
  refine zm_get_now C hin k13 dX6_deepestBlock_6 ?_
  refine z_iconst (v := nI 1) C dX6_deepestBlock_9 (by decide) ?_
  refine zm_ald_now C (by omega) dX6_deepestBlock_10 ?_
  refine zn_icmp_ge C 52 dX6_deepestBlock_11 (by decide) (by omega) (by omega) (fun h1 => ?_) (fun h2 => ?_)
  · refine z_aload_n C dX6_deepestBlock_52 0 rfl ?_
    refine z_iload_n C dX6_deepestBlock_53 1 rfl ?_
    refine zm_call C (mX6_told l D κ Ad _ _ _ _ _ _ _ _ (tI B)) gX6_deepestBlock_X6_told rfl rfl rfl hdX6_told ⟨Nat.le_of_ble_eq_true rfl, Nat.le_of_ble_eq_true rfl⟩ rfl (Nat.le_of_ble_eq_true rfl) dX6_deepestBlock_54 ⟨Nat.zero_le _, Nat.zero_le _⟩ ?_
    exact z_iret C hr hk () (congrArg (fun x => some (Value.int (tI x))) (show dpL nw (nw 1) = B by rw [hk2, show nw 1 = k by omega])) trivial (List.Perm.of_eq rfl) dX6_deepestBlock_57 (Nat.le_refl _) (Nat.le_refl _)
  · refine z_iload_n C dX6_deepestBlock_14 1 rfl ?_
    refine z_iconst (v := (-1)) C dX6_deepestBlock_15 (by decide) ?_
    refine zt_icmp_eq C 44 dX6_deepestBlock_16 (by decide) (by omega) (fun h3 => ?_) (fun h4 => ?_)
    · refine z_iload_n C dX6_deepestBlock_44 2 rfl ?_
      refine z_istore_n C [(1, .int (nI k)), (0, .ref (Ad 0)), (2, .int (nI k))] dX6_deepestBlock_45 (by decide) rfl ?_
      refine zn_iinc (n := 1) C [(2, .int (nI (k + 1))), (1, .int (nI k)), (0, .ref (Ad 0))] dX6_deepestBlock_46 2 rfl (by decide) rfl ?_
      refine z_goto (tgt := 4) C dX6_deepestBlock_49 (by decide) ?_
      refine z_lv [2, 1, 0] rfl ?_
      exact ih4 (k + 1, k + 1) ⟨by dsimp only; omega, by dsimp only; simp only [dpL]; rw [← hk2]; rw [if_pos h3]⟩ (by dsimp only; omega)
    · obtain ⟨d, hd2⟩ : ∃ d, B = d + 1 := ⟨B - 1, by omega⟩
      subst hd2
      refine z_aload_n C dX6_deepestBlock_19 0 rfl ?_
      refine zm_get_now C hin k13 dX6_deepestBlock_20 ?_
      refine z_iload_n C dX6_deepestBlock_23 2 rfl ?_
      refine zs_call C (mX6_b l D κ k) gX6_deepestBlock_X6_b rfl rfl rfl hdX6_b ⟨Nat.le_of_ble_eq_true rfl, Nat.le_of_ble_eq_true rfl⟩ rfl (Nat.le_of_ble_eq_true rfl) dX6_deepestBlock_24 ⟨Nat.zero_le _, Nat.zero_le _⟩ ?_
      refine z_iconst (v := nI 1) C dX6_deepestBlock_27 (by decide) ?_
      refine zn_iadd C dX6_deepestBlock_28 ?_
      refine zm_ald_now C (by omega) dX6_deepestBlock_29 ?_
      have g5 : nw ((5 + 6 * k) + 1) ≤ M := hB.j (by omega) (by omega)
      refine z_aload_n C dX6_deepestBlock_30 0 rfl ?_
      refine zm_get_now C hin k13 dX6_deepestBlock_31 ?_
      refine z_iload_n C dX6_deepestBlock_34 1 rfl ?_
      refine zs_call C (mX6_b l D κ d) gX6_deepestBlock_X6_b rfl rfl rfl hdX6_b ⟨Nat.le_of_ble_eq_true rfl, Nat.le_of_ble_eq_true rfl⟩ rfl (Nat.le_of_ble_eq_true rfl) dX6_deepestBlock_35 ⟨Nat.zero_le _, Nat.zero_le _⟩ ?_
      refine z_iconst (v := nI 1) C dX6_deepestBlock_38 (by decide) ?_
      refine zn_iadd C dX6_deepestBlock_39 ?_
      refine zm_ald_now C (by omega) dX6_deepestBlock_40 ?_
      have g6 : nw ((5 + 6 * d) + 1) ≤ M := hB.j (by omega) (by omega)
      refine zn_icmp_le C 46 dX6_deepestBlock_41 (by decide) (by omega) (by omega) (fun h7 => ?_) (fun h8 => ?_)
      · refine zn_iinc (n := 1) C [(2, .int (nI (k + 1))), (0, .ref (Ad 0)), (1, .int (nI d))] dX6_deepestBlock_46 2 rfl (by decide) rfl ?_
        refine z_goto (tgt := 4) C dX6_deepestBlock_49 (by decide) ?_
        refine z_lv [1, 2, 0] rfl ?_
        exact ih4 (k + 1, d + 1) ⟨by dsimp only; omega, by dsimp only; simp only [dpL]; rw [← hk2, if_neg (by omega), Nat.add_sub_cancel, if_neg (by omega)]⟩ (by dsimp only; omega)
      · refine z_iload_n C dX6_deepestBlock_44 2 rfl ?_
        refine z_istore_n C [(1, .int (nI k)), (0, .ref (Ad 0)), (2, .int (nI k))] dX6_deepestBlock_45 (by decide) rfl ?_
        refine zn_iinc (n := 1) C [(2, .int (nI (k + 1))), (1, .int (nI k)), (0, .ref (Ad 0))] dX6_deepestBlock_46 2 rfl (by decide) rfl ?_
        refine z_goto (tgt := 4) C dX6_deepestBlock_49 (by decide) ?_
        refine z_lv [2, 1, 0] rfl ?_
        exact ih4 (k + 1, k + 1) ⟨by dsimp only; omega, by dsimp only; simp only [dpL]; rw [← hk2]; rw [if_neg (by omega), Nat.add_sub_cancel, if_pos h8]⟩ (by dsimp only; omega)
theorem hdX6_deepestBlock : yX6_deepestBlock.cls = RX6 ∧ yX6_deepestBlock.cls ≠ "java/lang/invoke/MethodHandle" ∧ yX6_deepestBlock.cls ≠ "java/lang/invoke/VarHandle" ∧ (parseMethodDescriptor yX6_deepestBlock.desc).map (fun d => d.parameters.length) = some 0 := by decide +kernel
set_option maxRecDepth 100000 in
set_option maxHeartbeats 4000000 in
theorem mX6_isFirstDepth (l : Launch) (D : va_G) (κ : Nat → ClassId) (Ad : Nat → Nat) (eo : Int32) (ip : Nat → Int32) (v nw aw od sv ot : Nat → Nat) (M : Nat) (b : Nat) (hB : Bd M nw) (hb : b < nw 1) : mM l yX6_isFirstDepth wsX6_isFirstDepth { frames := 1, cells := 0, slots := 0, locals := 20 } D κ Ad [.int (nI b)] eo ip v nw aw od sv ot (some (.int (nI (fdL nw b b).toNat))) eo ip v nw aw od sv ot := by
  refine zM_of (cc := cX6_isFirstDepth) (maxL := 3) (rt := (some .boolean)) [(0, .ref (Ad 0)), (1, .int (nI b))] (by decide +kernel) rfl (Nat.le_of_ble_eq_true rfl) rfl ?_
  intro p e s m args below meth c A C hr hk hnm
  have C : zC p s m args c cX6_isFirstDepth 3 wsX6_isFirstDepth RX6 D (zTy κ) A := C
  have hin : ∀ w ∈ wsX60, w ∈ wsX6_isFirstDepth := fun w h => List.mem_cons_of_mem _ (List.mem_append_right _ h)
  have k13 : Cond.fieldLink RX6 13 "PeatRailwayModel" "now" "[I" ∈ wsX6_isFirstDepth := by decide +kernel
  obtain ⟨hM1, hM2, ht0, hnb, hnt, hj, hp⟩ := id hB
  refine z_iconst (v := nI 0) C dX6_isFirstDepth_0 (by decide) ?_
  refine z_istore_n C [(2, .int (nI 0)), (0, .ref (Ad 0)), (1, .int (nI b))] dX6_isFirstDepth_1 (by decide) rfl ?_
  refine z_lv [1, 2, 0] rfl ?_
  refine z_loop (σ := Nat) (fun k => MW κ Ad eo ip v nw aw od sv ot) (fun k => [(0, .ref (Ad 0)), (1, .int (nI b)), (2, .int (nI k))]) (fun k => k ≤ b ∧ fdL nw b k = true) (fun k => b - k) (0) (⟨Nat.zero_le _, rfl⟩) rfl rfl ?_
  rintro k hI2 ih2
  obtain ⟨hk1, hk2⟩ := hI2
  refine z_iload_n C dX6_isFirstDepth_2 2 rfl ?_
  refine z_iload_n C dX6_isFirstDepth_3 1 rfl ?_
  refine zn_icmp_ge C 40 dX6_isFirstDepth_4 (by decide) (by omega) (by omega) (fun h1 => ?_) (fun h2 => ?_)
  · refine z_iconst (v := nI 1) C dX6_isFirstDepth_40 (by decide) ?_
    exact z_zret C hr hk (by decide) () (congrArg (fun x : Bool => some (Value.int (nI x.toNat))) (show fdL nw b b = true by rw [show fdL nw b b = fdL nw b k from by rw [show b = k by omega]]; exact hk2)) trivial (List.Perm.of_eq rfl) dX6_isFirstDepth_41 (Nat.le_refl _) (Nat.le_refl _)
  · refine z_aload_n C dX6_isFirstDepth_7 0 rfl ?_
    refine zm_get_now C hin k13 dX6_isFirstDepth_8 ?_
    refine z_iload_n C dX6_isFirstDepth_11 2 rfl ?_
    refine zs_call C (mX6_b l D κ k) gX6_isFirstDepth_X6_b rfl rfl rfl hdX6_b ⟨Nat.le_of_ble_eq_true rfl, Nat.le_of_ble_eq_true rfl⟩ rfl (Nat.le_of_ble_eq_true rfl) dX6_isFirstDepth_12 ⟨Nat.zero_le _, Nat.zero_le _⟩ ?_
    refine z_iconst (v := nI 1) C dX6_isFirstDepth_15 (by decide) ?_
    refine zn_iadd C dX6_isFirstDepth_16 ?_
    refine zm_ald_now C (by omega) dX6_isFirstDepth_17 ?_
    have g3 : nw ((5 + 6 * k) + 1) ≤ M := hB.j (by omega) (by omega)
    refine z_aload_n C dX6_isFirstDepth_18 0 rfl ?_
    refine zm_get_now C hin k13 dX6_isFirstDepth_19 ?_
    refine z_iload_n C dX6_isFirstDepth_22 1 rfl ?_
    refine zs_call C (mX6_b l D κ b) gX6_isFirstDepth_X6_b rfl rfl rfl hdX6_b ⟨Nat.le_of_ble_eq_true rfl, Nat.le_of_ble_eq_true rfl⟩ rfl (Nat.le_of_ble_eq_true rfl) dX6_isFirstDepth_23 ⟨Nat.zero_le _, Nat.zero_le _⟩ ?_
    refine z_iconst (v := nI 1) C dX6_isFirstDepth_26 (by decide) ?_
    refine zn_iadd C dX6_isFirstDepth_27 ?_
    refine zm_ald_now C (by omega) dX6_isFirstDepth_28 ?_
    have g4 : nw ((5 + 6 * b) + 1) ≤ M := hB.j (by omega) (by omega)
    refine zn_icmp_ne C 34 dX6_isFirstDepth_29 (by decide) (by omega) (by omega) (fun h5 => ?_) (fun h6 => ?_)
    · refine zn_iinc (n := 1) C [(2, .int (nI (k + 1))), (0, .ref (Ad 0)), (1, .int (nI b))] dX6_isFirstDepth_34 2 rfl (by decide) rfl ?_
      refine z_goto (tgt := 2) C dX6_isFirstDepth_37 (by decide) ?_
      refine z_lv [1, 2, 0] rfl ?_
      exact ih2 (k + 1) ⟨by omega, by simp only [fdL]; rw [hk2, decide_eq_false h5]; rfl⟩ (by omega)
    · refine z_iconst (v := nI 0) C dX6_isFirstDepth_32 (by decide) ?_
      exact z_zret C hr hk (by decide) () (congrArg (fun x : Bool => some (Value.int (nI x.toNat))) (show fdL nw b b = false by exact fdL_mono nw b (n := k + 1) (by simp only [fdL]; rw [decide_eq_true h6]; simp) b (by omega))) trivial (List.Perm.of_eq rfl) dX6_isFirstDepth_33 (Nat.le_refl _) (Nat.le_refl _)
theorem hdX6_isFirstDepth : yX6_isFirstDepth.cls = RX6 ∧ yX6_isFirstDepth.cls ≠ "java/lang/invoke/MethodHandle" ∧ yX6_isFirstDepth.cls ≠ "java/lang/invoke/VarHandle" ∧ (parseMethodDescriptor yX6_isFirstDepth.desc).map (fun d => d.parameters.length) = some 1 := by decide +kernel
set_option maxRecDepth 100000 in
set_option maxHeartbeats 4000000 in
theorem mX6_differentDepths (l : Launch) (D : va_G) (κ : Nat → ClassId) (Ad : Nat → Nat) (eo : Int32) (ip : Nat → Int32) (v nw aw od sv ot : Nat → Nat) (M : Nat)  (hB : Bd M nw) : mM l yX6_differentDepths wsX6_differentDepths { frames := 2, cells := 0, slots := 0, locals := 42 } D κ Ad [] eo ip v nw aw od sv ot (some (.int (nI (sumL (fun i => (fdL nw i i).toNat) (nw 1))))) eo ip (upN v 1 0) nw aw od sv ot := by
  refine zM_of (cc := cX6_differentDepths) (maxL := 3) (rt := (some .int)) [(0, .ref (Ad 0))] (by decide +kernel) rfl (Nat.le_of_ble_eq_true rfl) rfl ?_
  intro p e s m args below meth c A C hr hk hnm
  have C : zC p s m args c cX6_differentDepths 3 wsX6_differentDepths RX6 D (zTy κ) A := C
  have hin : ∀ w ∈ wsX60, w ∈ wsX6_differentDepths := fun w h => List.mem_cons_of_mem _ (List.mem_append_right _ h)
  have k13 : Cond.fieldLink RX6 13 "PeatRailwayModel" "now" "[I" ∈ wsX6_differentDepths := by decide +kernel
  obtain ⟨hM1, hM2, ht0, hnb, hnt, hj, hp⟩ := id hB
  refine z_iconst (v := nI 0) C dX6_differentDepths_0 (by decide) ?_
  refine z_istore_n C [(1, .int (nI 0)), (0, .ref (Ad 0))] dX6_differentDepths_1 (by decide) rfl ?_
  refine z_iconst (v := nI 0) C dX6_differentDepths_2 (by decide) ?_
  refine z_istore_n C [(2, .int (nI 0)), (1, .int (nI 0)), (0, .ref (Ad 0))] dX6_differentDepths_3 (by decide) rfl ?_
  refine z_lv [2, 1, 0] rfl ?_
  refine z_loop (σ := Nat × Nat) (fun x => MW κ Ad eo ip v nw aw od sv ot) (fun x => [(0, .ref (Ad 0)), (1, .int (nI x.2)), (2, .int (nI x.1))]) (fun x => x.1 ≤ nw 1 ∧ x.2 = sumL (fun i => (fdL nw i i).toNat) x.1) (fun x => nw 1 - x.1) ((0, 0)) (⟨Nat.zero_le _, rfl⟩) rfl rfl ?_
  rintro ⟨k, E⟩ hI4 ih4
  dsimp only at hI4 ih4 ⊢
  obtain ⟨hk1, hk2⟩ := hI4
  refine z_iload_n C dX6_differentDepths_4 2 rfl ?_
  refine z_aload_n C dX6_differentDepths_5 0 rfl ?_
  refine zm_get_now C hin k13 dX6_differentDepths_6 ?_
  refine z_iconst (v := nI 1) C dX6_differentDepths_9 (by decide) ?_
  refine zm_ald_now C (by omega) dX6_differentDepths_10 ?_
  refine zn_icmp_ge C 31 dX6_differentDepths_11 (by decide) (by omega) (by omega) (fun h1 => ?_) (fun h2 => ?_)
  · refine z_aload_n C dX6_differentDepths_31 0 rfl ?_
    refine z_iload_n C dX6_differentDepths_32 1 rfl ?_
    refine zm_call C (mX6_told l D κ Ad _ _ _ _ _ _ _ _ (nI E)) gX6_differentDepths_X6_told rfl rfl rfl hdX6_told ⟨Nat.le_of_ble_eq_true rfl, Nat.le_of_ble_eq_true rfl⟩ rfl (Nat.le_of_ble_eq_true rfl) dX6_differentDepths_33 ⟨Nat.zero_le _, Nat.zero_le _⟩ ?_
    exact z_iret C hr hk () (congrArg (fun x : Nat => some (Value.int (nI x))) (show sumL (fun i => (fdL nw i i).toNat) (nw 1) = E by rw [hk2, show nw 1 = k by omega])) trivial (List.Perm.of_eq rfl) dX6_differentDepths_36 (Nat.le_refl _) (Nat.le_refl _)
  · refine z_aload_n C dX6_differentDepths_14 0 rfl ?_
    refine z_iload_n C dX6_differentDepths_15 2 rfl ?_
    refine zm_call C (mX6_isFirstDepth l D κ Ad _ _ _ _ _ _ _ _ M k hB (by omega)) gX6_differentDepths_X6_isFirstDepth rfl rfl rfl hdX6_isFirstDepth ⟨Nat.le_of_ble_eq_true rfl, Nat.le_of_ble_eq_true rfl⟩ rfl (Nat.le_of_ble_eq_true rfl) dX6_differentDepths_16 ⟨Nat.zero_le _, Nat.zero_le _⟩ ?_
    refine zb_if_eq C 25 dX6_differentDepths_19 (by decide) (fun h3 => ?_) (fun h4 => ?_)
    · refine zn_iinc (n := 1) C [(2, .int (nI (k + 1))), (0, .ref (Ad 0)), (1, .int (nI E))] dX6_differentDepths_25 2 rfl (by decide) rfl ?_
      refine z_goto (tgt := 4) C dX6_differentDepths_28 (by decide) ?_
      refine z_lv [1, 2, 0] rfl ?_
      exact ih4 (k + 1, E) ⟨by dsimp only; omega, by dsimp only; rw [hk2]; simp only [sumL]; rw [h3]; rfl⟩ (by dsimp only; omega)
    · refine zn_iinc (n := 1) C [(1, .int (nI (E + 1))), (0, .ref (Ad 0)), (2, .int (nI k))] dX6_differentDepths_22 1 rfl (by decide) rfl ?_
      refine zn_iinc (n := 1) C [(2, .int (nI (k + 1))), (1, .int (nI (E + 1))), (0, .ref (Ad 0))] dX6_differentDepths_25 2 rfl (by decide) rfl ?_
      refine z_goto (tgt := 4) C dX6_differentDepths_28 (by decide) ?_
      refine z_lv [2, 1, 0] rfl ?_
      exact ih4 (k + 1, (E + 1)) ⟨by dsimp only; omega, by dsimp only; rw [hk2]; simp only [sumL]; rw [h4]; rfl⟩ (by dsimp only; omega)
theorem hdX6_differentDepths : yX6_differentDepths.cls = RX6 ∧ yX6_differentDepths.cls ≠ "java/lang/invoke/MethodHandle" ∧ yX6_differentDepths.cls ≠ "java/lang/invoke/VarHandle" ∧ (parseMethodDescriptor yX6_differentDepths.desc).map (fun d => d.parameters.length) = some 0 := by decide +kernel
set_option maxRecDepth 100000 in
set_option maxHeartbeats 4000000 in
theorem mX6_blockOf_no (l : Launch) (D : va_G) (κ : Nat → ClassId) (Ad : Nat → Nat) (eo : Int32) (ip : Nat → Int32) (v nw aw od sv ot : Nat → Nat) (M : Nat) (x : Int32)  (hB : Bd M nw) (hx : isB (nw 2) x = false) : mM l yX6_blockOf wsX6_blockOf { frames := 2, cells := 0, slots := 0, locals := 43 } D κ Ad [.int (x)] eo ip v nw aw od sv ot (some (.int (nI 0))) eo ip (upN v 1 1) nw aw od sv ot := by
  refine zM_of (cc := cX6_blockOf) (maxL := 2) (rt := (some .int)) [(0, .ref (Ad 0)), (1, .int (x))] (by decide +kernel) rfl (Nat.le_of_ble_eq_true rfl) rfl ?_
  intro p e s m args below meth c A C hr hk hnm
  have C : zC p s m args c cX6_blockOf 2 wsX6_blockOf RX6 D (zTy κ) A := C
  have hin : ∀ w ∈ wsX60, w ∈ wsX6_blockOf := fun w h => List.mem_cons_of_mem _ (List.mem_append_right _ h)
  have k13 : Cond.fieldLink RX6 13 "PeatRailwayModel" "now" "[I" ∈ wsX6_blockOf := by decide +kernel
  obtain ⟨hM1, hM2, ht0, hnb, hnt, hj, hp⟩ := id hB
  refine z_aload_n C dX6_blockOf_0 0 rfl ?_
  refine z_iload_n C dX6_blockOf_1 1 rfl ?_
  refine zm_call C (mX6_isTrain_no l D κ Ad _ _ _ _ _ _ _ _ M x hB hx) gX6_blockOf_X6_isTrain rfl rfl rfl hdX6_isTrain ⟨Nat.le_of_ble_eq_true rfl, Nat.le_of_ble_eq_true rfl⟩ rfl (Nat.le_of_ble_eq_true rfl) dX6_blockOf_2 ⟨Nat.zero_le _, Nat.zero_le _⟩ ?_
  refine zb_if_ne C 14 dX6_blockOf_5 (by decide) (fun q => absurd q (by decide)) (fun _ => ?_)
  refine z_aload_n C dX6_blockOf_8 0 rfl ?_
  refine z_iconst (v := nI 1) C dX6_blockOf_9 (by decide) ?_
  refine zm_call C (mX6_refuse l D κ Ad _ _ _ _ _ _ _ _ 1) gX6_blockOf_X6_refuse rfl rfl rfl hdX6_refuse ⟨Nat.le_of_ble_eq_true rfl, Nat.le_of_ble_eq_true rfl⟩ rfl (Nat.le_of_ble_eq_true rfl) dX6_blockOf_10 ⟨Nat.zero_le _, Nat.zero_le _⟩ ?_
  exact z_iret C hr hk () (rfl) trivial (List.Perm.of_eq rfl) dX6_blockOf_13 (Nat.le_refl _) (Nat.le_refl _)
theorem hdX6_blockOf : yX6_blockOf.cls = RX6 ∧ yX6_blockOf.cls ≠ "java/lang/invoke/MethodHandle" ∧ yX6_blockOf.cls ≠ "java/lang/invoke/VarHandle" ∧ (parseMethodDescriptor yX6_blockOf.desc).map (fun d => d.parameters.length) = some 1 := by decide +kernel
set_option maxRecDepth 100000 in
set_option maxHeartbeats 4000000 in
theorem mX6_blockOf_ok (l : Launch) (D : va_G) (κ : Nat → ClassId) (Ad : Nat → Nat) (eo : Int32) (ip : Nat → Int32) (v nw aw od sv ot : Nat → Nat) (M : Nat) (k : Nat) (hB : Bd M nw) (hk0 : k < nw 2) : mM l yX6_blockOf wsX6_blockOf { frames := 2, cells := 0, slots := 0, locals := 43 } D κ Ad [.int (nI k)] eo ip v nw aw od sv ot (some (.int (nI (nw (65 + 5 * k + 2))))) eo ip (upN v 1 0) nw aw od sv ot := by
  refine zM_of (cc := cX6_blockOf) (maxL := 2) (rt := (some .int)) [(0, .ref (Ad 0)), (1, .int (nI k))] (by decide +kernel) rfl (Nat.le_of_ble_eq_true rfl) rfl ?_
  intro p e s m args below meth c A C hr hk hnm
  have C : zC p s m args c cX6_blockOf 2 wsX6_blockOf RX6 D (zTy κ) A := C
  have hin : ∀ w ∈ wsX60, w ∈ wsX6_blockOf := fun w h => List.mem_cons_of_mem _ (List.mem_append_right _ h)
  have k13 : Cond.fieldLink RX6 13 "PeatRailwayModel" "now" "[I" ∈ wsX6_blockOf := by decide +kernel
  obtain ⟨hM1, hM2, ht0, hnb, hnt, hj, hp⟩ := id hB
  refine z_aload_n C dX6_blockOf_0 0 rfl ?_
  refine z_iload_n C dX6_blockOf_1 1 rfl ?_
  refine zm_call C (mX6_isTrain_k l D κ Ad _ _ _ _ _ _ _ _ M k hB (by omega)) gX6_blockOf_X6_isTrain rfl rfl rfl hdX6_isTrain ⟨Nat.le_of_ble_eq_true rfl, Nat.le_of_ble_eq_true rfl⟩ rfl (Nat.le_of_ble_eq_true rfl) dX6_blockOf_2 ⟨Nat.zero_le _, Nat.zero_le _⟩ ?_
  refine zb_if_ne C 14 dX6_blockOf_5 (by decide) (fun _ => ?_) (fun q => absurd q (by decide))
  refine z_aload_n C dX6_blockOf_14 0 rfl ?_
  refine z_aload_n C dX6_blockOf_15 0 rfl ?_
  refine zm_get_now C hin k13 dX6_blockOf_16 ?_
  refine z_iload_n C dX6_blockOf_19 1 rfl ?_
  refine zs_call C (mX6_t l D κ k) gX6_blockOf_X6_t rfl rfl rfl hdX6_t ⟨Nat.le_of_ble_eq_true rfl, Nat.le_of_ble_eq_true rfl⟩ rfl (Nat.le_of_ble_eq_true rfl) dX6_blockOf_20 ⟨Nat.zero_le _, Nat.zero_le _⟩ ?_
  refine z_iconst (v := nI 2) C dX6_blockOf_23 (by decide) ?_
  refine zn_iadd C dX6_blockOf_24 ?_
  refine zm_ald_now C (by omega) dX6_blockOf_25 ?_
  have g1 : nw ((65 + 5 * k) + 2) ≤ M := hB.j (by omega) (by omega)
  have q2 : nw ((65 + 5 * k) + 2) < nw 1 := hB.p (t := k) (by omega)
  refine zm_call C (mX6_told l D κ Ad _ _ _ _ _ _ _ _ (nI (nw ((65 + 5 * k) + 2)))) gX6_blockOf_X6_told rfl rfl rfl hdX6_told ⟨Nat.le_of_ble_eq_true rfl, Nat.le_of_ble_eq_true rfl⟩ rfl (Nat.le_of_ble_eq_true rfl) dX6_blockOf_26 ⟨Nat.zero_le _, Nat.zero_le _⟩ ?_
  exact z_iret C hr hk () (rfl) trivial (List.Perm.of_eq rfl) dX6_blockOf_29 (Nat.le_refl _) (Nat.le_refl _)
set_option maxRecDepth 100000 in
set_option maxHeartbeats 4000000 in
theorem mX6_positionOf_no (l : Launch) (D : va_G) (κ : Nat → ClassId) (Ad : Nat → Nat) (eo : Int32) (ip : Nat → Int32) (v nw aw od sv ot : Nat → Nat) (M : Nat) (x : Int32)  (hB : Bd M nw) (hx : isB (nw 2) x = false) : mM l yX6_positionOf wsX6_positionOf { frames := 2, cells := 0, slots := 0, locals := 43 } D κ Ad [.int (x)] eo ip v nw aw od sv ot (some (.int (nI 0))) eo ip (upN v 1 1) nw aw od sv ot := by
  refine zM_of (cc := cX6_positionOf) (maxL := 2) (rt := (some .int)) [(0, .ref (Ad 0)), (1, .int (x))] (by decide +kernel) rfl (Nat.le_of_ble_eq_true rfl) rfl ?_
  intro p e s m args below meth c A C hr hk hnm
  have C : zC p s m args c cX6_positionOf 2 wsX6_positionOf RX6 D (zTy κ) A := C
  have hin : ∀ w ∈ wsX60, w ∈ wsX6_positionOf := fun w h => List.mem_cons_of_mem _ (List.mem_append_right _ h)
  have k13 : Cond.fieldLink RX6 13 "PeatRailwayModel" "now" "[I" ∈ wsX6_positionOf := by decide +kernel
  obtain ⟨hM1, hM2, ht0, hnb, hnt, hj, hp⟩ := id hB
  refine z_aload_n C dX6_positionOf_0 0 rfl ?_
  refine z_iload_n C dX6_positionOf_1 1 rfl ?_
  refine zm_call C (mX6_isTrain_no l D κ Ad _ _ _ _ _ _ _ _ M x hB hx) gX6_positionOf_X6_isTrain rfl rfl rfl hdX6_isTrain ⟨Nat.le_of_ble_eq_true rfl, Nat.le_of_ble_eq_true rfl⟩ rfl (Nat.le_of_ble_eq_true rfl) dX6_positionOf_2 ⟨Nat.zero_le _, Nat.zero_le _⟩ ?_
  refine zb_if_ne C 14 dX6_positionOf_5 (by decide) (fun q => absurd q (by decide)) (fun _ => ?_)
  refine z_aload_n C dX6_positionOf_8 0 rfl ?_
  refine z_iconst (v := nI 1) C dX6_positionOf_9 (by decide) ?_
  refine zm_call C (mX6_refuse l D κ Ad _ _ _ _ _ _ _ _ 1) gX6_positionOf_X6_refuse rfl rfl rfl hdX6_refuse ⟨Nat.le_of_ble_eq_true rfl, Nat.le_of_ble_eq_true rfl⟩ rfl (Nat.le_of_ble_eq_true rfl) dX6_positionOf_10 ⟨Nat.zero_le _, Nat.zero_le _⟩ ?_
  exact z_iret C hr hk () (rfl) trivial (List.Perm.of_eq rfl) dX6_positionOf_13 (Nat.le_refl _) (Nat.le_refl _)
theorem hdX6_positionOf : yX6_positionOf.cls = RX6 ∧ yX6_positionOf.cls ≠ "java/lang/invoke/MethodHandle" ∧ yX6_positionOf.cls ≠ "java/lang/invoke/VarHandle" ∧ (parseMethodDescriptor yX6_positionOf.desc).map (fun d => d.parameters.length) = some 1 := by decide +kernel
set_option maxRecDepth 100000 in
set_option maxHeartbeats 4000000 in
theorem mX6_positionOf_ok (l : Launch) (D : va_G) (κ : Nat → ClassId) (Ad : Nat → Nat) (eo : Int32) (ip : Nat → Int32) (v nw aw od sv ot : Nat → Nat) (M : Nat) (k : Nat) (hB : Bd M nw) (hk0 : k < nw 2) : mM l yX6_positionOf wsX6_positionOf { frames := 2, cells := 0, slots := 0, locals := 43 } D κ Ad [.int (nI k)] eo ip v nw aw od sv ot (some (.int (nI (nw (65 + 5 * k + 3))))) eo ip (upN v 1 0) nw aw od sv ot := by
  refine zM_of (cc := cX6_positionOf) (maxL := 2) (rt := (some .int)) [(0, .ref (Ad 0)), (1, .int (nI k))] (by decide +kernel) rfl (Nat.le_of_ble_eq_true rfl) rfl ?_
  intro p e s m args below meth c A C hr hk hnm
  have C : zC p s m args c cX6_positionOf 2 wsX6_positionOf RX6 D (zTy κ) A := C
  have hin : ∀ w ∈ wsX60, w ∈ wsX6_positionOf := fun w h => List.mem_cons_of_mem _ (List.mem_append_right _ h)
  have k13 : Cond.fieldLink RX6 13 "PeatRailwayModel" "now" "[I" ∈ wsX6_positionOf := by decide +kernel
  obtain ⟨hM1, hM2, ht0, hnb, hnt, hj, hp⟩ := id hB
  refine z_aload_n C dX6_positionOf_0 0 rfl ?_
  refine z_iload_n C dX6_positionOf_1 1 rfl ?_
  refine zm_call C (mX6_isTrain_k l D κ Ad _ _ _ _ _ _ _ _ M k hB (by omega)) gX6_positionOf_X6_isTrain rfl rfl rfl hdX6_isTrain ⟨Nat.le_of_ble_eq_true rfl, Nat.le_of_ble_eq_true rfl⟩ rfl (Nat.le_of_ble_eq_true rfl) dX6_positionOf_2 ⟨Nat.zero_le _, Nat.zero_le _⟩ ?_
  refine zb_if_ne C 14 dX6_positionOf_5 (by decide) (fun _ => ?_) (fun q => absurd q (by decide))
  refine z_aload_n C dX6_positionOf_14 0 rfl ?_
  refine z_aload_n C dX6_positionOf_15 0 rfl ?_
  refine zm_get_now C hin k13 dX6_positionOf_16 ?_
  refine z_iload_n C dX6_positionOf_19 1 rfl ?_
  refine zs_call C (mX6_t l D κ k) gX6_positionOf_X6_t rfl rfl rfl hdX6_t ⟨Nat.le_of_ble_eq_true rfl, Nat.le_of_ble_eq_true rfl⟩ rfl (Nat.le_of_ble_eq_true rfl) dX6_positionOf_20 ⟨Nat.zero_le _, Nat.zero_le _⟩ ?_
  refine z_iconst (v := nI 3) C dX6_positionOf_23 (by decide) ?_
  refine zn_iadd C dX6_positionOf_24 ?_
  refine zm_ald_now C (by omega) dX6_positionOf_25 ?_
  have g1 : nw ((65 + 5 * k) + 3) ≤ M := hB.j (by omega) (by omega)
  refine zm_call C (mX6_told l D κ Ad _ _ _ _ _ _ _ _ (nI (nw ((65 + 5 * k) + 3)))) gX6_positionOf_X6_told rfl rfl rfl hdX6_told ⟨Nat.le_of_ble_eq_true rfl, Nat.le_of_ble_eq_true rfl⟩ rfl (Nat.le_of_ble_eq_true rfl) dX6_positionOf_26 ⟨Nat.zero_le _, Nat.zero_le _⟩ ?_
  exact z_iret C hr hk () (rfl) trivial (List.Perm.of_eq rfl) dX6_positionOf_29 (Nat.le_refl _) (Nat.le_refl _)
set_option maxRecDepth 100000 in
set_option maxHeartbeats 4000000 in
theorem mX6_wagonsOf_no (l : Launch) (D : va_G) (κ : Nat → ClassId) (Ad : Nat → Nat) (eo : Int32) (ip : Nat → Int32) (v nw aw od sv ot : Nat → Nat) (M : Nat) (x : Int32)  (hB : Bd M nw) (hx : isB (nw 2) x = false) : mM l yX6_wagonsOf wsX6_wagonsOf { frames := 2, cells := 0, slots := 0, locals := 43 } D κ Ad [.int (x)] eo ip v nw aw od sv ot (some (.int (nI 0))) eo ip (upN v 1 1) nw aw od sv ot := by
  refine zM_of (cc := cX6_wagonsOf) (maxL := 2) (rt := (some .int)) [(0, .ref (Ad 0)), (1, .int (x))] (by decide +kernel) rfl (Nat.le_of_ble_eq_true rfl) rfl ?_
  intro p e s m args below meth c A C hr hk hnm
  have C : zC p s m args c cX6_wagonsOf 2 wsX6_wagonsOf RX6 D (zTy κ) A := C
  have hin : ∀ w ∈ wsX60, w ∈ wsX6_wagonsOf := fun w h => List.mem_cons_of_mem _ (List.mem_append_right _ h)
  have k13 : Cond.fieldLink RX6 13 "PeatRailwayModel" "now" "[I" ∈ wsX6_wagonsOf := by decide +kernel
  obtain ⟨hM1, hM2, ht0, hnb, hnt, hj, hp⟩ := id hB
  refine z_aload_n C dX6_wagonsOf_0 0 rfl ?_
  refine z_iload_n C dX6_wagonsOf_1 1 rfl ?_
  refine zm_call C (mX6_isTrain_no l D κ Ad _ _ _ _ _ _ _ _ M x hB hx) gX6_wagonsOf_X6_isTrain rfl rfl rfl hdX6_isTrain ⟨Nat.le_of_ble_eq_true rfl, Nat.le_of_ble_eq_true rfl⟩ rfl (Nat.le_of_ble_eq_true rfl) dX6_wagonsOf_2 ⟨Nat.zero_le _, Nat.zero_le _⟩ ?_
  refine zb_if_ne C 14 dX6_wagonsOf_5 (by decide) (fun q => absurd q (by decide)) (fun _ => ?_)
  refine z_aload_n C dX6_wagonsOf_8 0 rfl ?_
  refine z_iconst (v := nI 1) C dX6_wagonsOf_9 (by decide) ?_
  refine zm_call C (mX6_refuse l D κ Ad _ _ _ _ _ _ _ _ 1) gX6_wagonsOf_X6_refuse rfl rfl rfl hdX6_refuse ⟨Nat.le_of_ble_eq_true rfl, Nat.le_of_ble_eq_true rfl⟩ rfl (Nat.le_of_ble_eq_true rfl) dX6_wagonsOf_10 ⟨Nat.zero_le _, Nat.zero_le _⟩ ?_
  exact z_iret C hr hk () (rfl) trivial (List.Perm.of_eq rfl) dX6_wagonsOf_13 (Nat.le_refl _) (Nat.le_refl _)
theorem hdX6_wagonsOf : yX6_wagonsOf.cls = RX6 ∧ yX6_wagonsOf.cls ≠ "java/lang/invoke/MethodHandle" ∧ yX6_wagonsOf.cls ≠ "java/lang/invoke/VarHandle" ∧ (parseMethodDescriptor yX6_wagonsOf.desc).map (fun d => d.parameters.length) = some 1 := by decide +kernel
set_option maxRecDepth 100000 in
set_option maxHeartbeats 4000000 in
theorem mX6_wagonsOf_ok (l : Launch) (D : va_G) (κ : Nat → ClassId) (Ad : Nat → Nat) (eo : Int32) (ip : Nat → Int32) (v nw aw od sv ot : Nat → Nat) (M : Nat) (k : Nat) (hB : Bd M nw) (hk0 : k < nw 2) : mM l yX6_wagonsOf wsX6_wagonsOf { frames := 2, cells := 0, slots := 0, locals := 43 } D κ Ad [.int (nI k)] eo ip v nw aw od sv ot (some (.int (nI (nw (65 + 5 * k + 0))))) eo ip (upN v 1 0) nw aw od sv ot := by
  refine zM_of (cc := cX6_wagonsOf) (maxL := 2) (rt := (some .int)) [(0, .ref (Ad 0)), (1, .int (nI k))] (by decide +kernel) rfl (Nat.le_of_ble_eq_true rfl) rfl ?_
  intro p e s m args below meth c A C hr hk hnm
  have C : zC p s m args c cX6_wagonsOf 2 wsX6_wagonsOf RX6 D (zTy κ) A := C
  have hin : ∀ w ∈ wsX60, w ∈ wsX6_wagonsOf := fun w h => List.mem_cons_of_mem _ (List.mem_append_right _ h)
  have k13 : Cond.fieldLink RX6 13 "PeatRailwayModel" "now" "[I" ∈ wsX6_wagonsOf := by decide +kernel
  obtain ⟨hM1, hM2, ht0, hnb, hnt, hj, hp⟩ := id hB
  refine z_aload_n C dX6_wagonsOf_0 0 rfl ?_
  refine z_iload_n C dX6_wagonsOf_1 1 rfl ?_
  refine zm_call C (mX6_isTrain_k l D κ Ad _ _ _ _ _ _ _ _ M k hB (by omega)) gX6_wagonsOf_X6_isTrain rfl rfl rfl hdX6_isTrain ⟨Nat.le_of_ble_eq_true rfl, Nat.le_of_ble_eq_true rfl⟩ rfl (Nat.le_of_ble_eq_true rfl) dX6_wagonsOf_2 ⟨Nat.zero_le _, Nat.zero_le _⟩ ?_
  refine zb_if_ne C 14 dX6_wagonsOf_5 (by decide) (fun _ => ?_) (fun q => absurd q (by decide))
  refine z_aload_n C dX6_wagonsOf_14 0 rfl ?_
  refine z_aload_n C dX6_wagonsOf_15 0 rfl ?_
  refine zm_get_now C hin k13 dX6_wagonsOf_16 ?_
  refine z_iload_n C dX6_wagonsOf_19 1 rfl ?_
  refine zs_call C (mX6_t l D κ k) gX6_wagonsOf_X6_t rfl rfl rfl hdX6_t ⟨Nat.le_of_ble_eq_true rfl, Nat.le_of_ble_eq_true rfl⟩ rfl (Nat.le_of_ble_eq_true rfl) dX6_wagonsOf_20 ⟨Nat.zero_le _, Nat.zero_le _⟩ ?_
  refine z_iconst (v := nI 0) C dX6_wagonsOf_23 (by decide) ?_
  refine zn_iadd C dX6_wagonsOf_24 ?_
  refine zm_ald_now C (by omega) dX6_wagonsOf_25 ?_
  have g1 : nw ((65 + 5 * k) + 0) ≤ M := hB.j (by omega) (by omega)
  refine zm_call C (mX6_told l D κ Ad _ _ _ _ _ _ _ _ (nI (nw ((65 + 5 * k) + 0)))) gX6_wagonsOf_X6_told rfl rfl rfl hdX6_told ⟨Nat.le_of_ble_eq_true rfl, Nat.le_of_ble_eq_true rfl⟩ rfl (Nat.le_of_ble_eq_true rfl) dX6_wagonsOf_26 ⟨Nat.zero_le _, Nat.zero_le _⟩ ?_
  exact z_iret C hr hk () (rfl) trivial (List.Perm.of_eq rfl) dX6_wagonsOf_29 (Nat.le_refl _) (Nat.le_refl _)
set_option maxRecDepth 100000 in
set_option maxHeartbeats 4000000 in
theorem mX6_topSpeedOf_no (l : Launch) (D : va_G) (κ : Nat → ClassId) (Ad : Nat → Nat) (eo : Int32) (ip : Nat → Int32) (v nw aw od sv ot : Nat → Nat) (M : Nat) (x : Int32)  (hB : Bd M nw) (hx : isB (nw 2) x = false) : mM l yX6_topSpeedOf wsX6_topSpeedOf { frames := 2, cells := 0, slots := 0, locals := 43 } D κ Ad [.int (x)] eo ip v nw aw od sv ot (some (.int (nI 0))) eo ip (upN v 1 1) nw aw od sv ot := by
  refine zM_of (cc := cX6_topSpeedOf) (maxL := 2) (rt := (some .int)) [(0, .ref (Ad 0)), (1, .int (x))] (by decide +kernel) rfl (Nat.le_of_ble_eq_true rfl) rfl ?_
  intro p e s m args below meth c A C hr hk hnm
  have C : zC p s m args c cX6_topSpeedOf 2 wsX6_topSpeedOf RX6 D (zTy κ) A := C
  have hin : ∀ w ∈ wsX60, w ∈ wsX6_topSpeedOf := fun w h => List.mem_cons_of_mem _ (List.mem_append_right _ h)
  have k13 : Cond.fieldLink RX6 13 "PeatRailwayModel" "now" "[I" ∈ wsX6_topSpeedOf := by decide +kernel
  obtain ⟨hM1, hM2, ht0, hnb, hnt, hj, hp⟩ := id hB
  refine z_aload_n C dX6_topSpeedOf_0 0 rfl ?_
  refine z_iload_n C dX6_topSpeedOf_1 1 rfl ?_
  refine zm_call C (mX6_isTrain_no l D κ Ad _ _ _ _ _ _ _ _ M x hB hx) gX6_topSpeedOf_X6_isTrain rfl rfl rfl hdX6_isTrain ⟨Nat.le_of_ble_eq_true rfl, Nat.le_of_ble_eq_true rfl⟩ rfl (Nat.le_of_ble_eq_true rfl) dX6_topSpeedOf_2 ⟨Nat.zero_le _, Nat.zero_le _⟩ ?_
  refine zb_if_ne C 14 dX6_topSpeedOf_5 (by decide) (fun q => absurd q (by decide)) (fun _ => ?_)
  refine z_aload_n C dX6_topSpeedOf_8 0 rfl ?_
  refine z_iconst (v := nI 1) C dX6_topSpeedOf_9 (by decide) ?_
  refine zm_call C (mX6_refuse l D κ Ad _ _ _ _ _ _ _ _ 1) gX6_topSpeedOf_X6_refuse rfl rfl rfl hdX6_refuse ⟨Nat.le_of_ble_eq_true rfl, Nat.le_of_ble_eq_true rfl⟩ rfl (Nat.le_of_ble_eq_true rfl) dX6_topSpeedOf_10 ⟨Nat.zero_le _, Nat.zero_le _⟩ ?_
  exact z_iret C hr hk () (rfl) trivial (List.Perm.of_eq rfl) dX6_topSpeedOf_13 (Nat.le_refl _) (Nat.le_refl _)
theorem hdX6_topSpeedOf : yX6_topSpeedOf.cls = RX6 ∧ yX6_topSpeedOf.cls ≠ "java/lang/invoke/MethodHandle" ∧ yX6_topSpeedOf.cls ≠ "java/lang/invoke/VarHandle" ∧ (parseMethodDescriptor yX6_topSpeedOf.desc).map (fun d => d.parameters.length) = some 1 := by decide +kernel
set_option maxRecDepth 100000 in
set_option maxHeartbeats 4000000 in
theorem mX6_topSpeedOf_ok (l : Launch) (D : va_G) (κ : Nat → ClassId) (Ad : Nat → Nat) (eo : Int32) (ip : Nat → Int32) (v nw aw od sv ot : Nat → Nat) (M : Nat) (k : Nat) (hB : Bd M nw) (hk0 : k < nw 2) : mM l yX6_topSpeedOf wsX6_topSpeedOf { frames := 2, cells := 0, slots := 0, locals := 43 } D κ Ad [.int (nI k)] eo ip v nw aw od sv ot (some (.int (nI (nw (65 + 5 * k + 1))))) eo ip (upN v 1 0) nw aw od sv ot := by
  refine zM_of (cc := cX6_topSpeedOf) (maxL := 2) (rt := (some .int)) [(0, .ref (Ad 0)), (1, .int (nI k))] (by decide +kernel) rfl (Nat.le_of_ble_eq_true rfl) rfl ?_
  intro p e s m args below meth c A C hr hk hnm
  have C : zC p s m args c cX6_topSpeedOf 2 wsX6_topSpeedOf RX6 D (zTy κ) A := C
  have hin : ∀ w ∈ wsX60, w ∈ wsX6_topSpeedOf := fun w h => List.mem_cons_of_mem _ (List.mem_append_right _ h)
  have k13 : Cond.fieldLink RX6 13 "PeatRailwayModel" "now" "[I" ∈ wsX6_topSpeedOf := by decide +kernel
  obtain ⟨hM1, hM2, ht0, hnb, hnt, hj, hp⟩ := id hB
  refine z_aload_n C dX6_topSpeedOf_0 0 rfl ?_
  refine z_iload_n C dX6_topSpeedOf_1 1 rfl ?_
  refine zm_call C (mX6_isTrain_k l D κ Ad _ _ _ _ _ _ _ _ M k hB (by omega)) gX6_topSpeedOf_X6_isTrain rfl rfl rfl hdX6_isTrain ⟨Nat.le_of_ble_eq_true rfl, Nat.le_of_ble_eq_true rfl⟩ rfl (Nat.le_of_ble_eq_true rfl) dX6_topSpeedOf_2 ⟨Nat.zero_le _, Nat.zero_le _⟩ ?_
  refine zb_if_ne C 14 dX6_topSpeedOf_5 (by decide) (fun _ => ?_) (fun q => absurd q (by decide))
  refine z_aload_n C dX6_topSpeedOf_14 0 rfl ?_
  refine z_aload_n C dX6_topSpeedOf_15 0 rfl ?_
  refine zm_get_now C hin k13 dX6_topSpeedOf_16 ?_
  refine z_iload_n C dX6_topSpeedOf_19 1 rfl ?_
  refine zs_call C (mX6_t l D κ k) gX6_topSpeedOf_X6_t rfl rfl rfl hdX6_t ⟨Nat.le_of_ble_eq_true rfl, Nat.le_of_ble_eq_true rfl⟩ rfl (Nat.le_of_ble_eq_true rfl) dX6_topSpeedOf_20 ⟨Nat.zero_le _, Nat.zero_le _⟩ ?_
  refine z_iconst (v := nI 1) C dX6_topSpeedOf_23 (by decide) ?_
  refine zn_iadd C dX6_topSpeedOf_24 ?_
  refine zm_ald_now C (by omega) dX6_topSpeedOf_25 ?_
  have g1 : nw ((65 + 5 * k) + 1) ≤ M := hB.j (by omega) (by omega)
  refine zm_call C (mX6_told l D κ Ad _ _ _ _ _ _ _ _ (nI (nw ((65 + 5 * k) + 1)))) gX6_topSpeedOf_X6_told rfl rfl rfl hdX6_told ⟨Nat.le_of_ble_eq_true rfl, Nat.le_of_ble_eq_true rfl⟩ rfl (Nat.le_of_ble_eq_true rfl) dX6_topSpeedOf_26 ⟨Nat.zero_le _, Nat.zero_le _⟩ ?_
  exact z_iret C hr hk () (rfl) trivial (List.Perm.of_eq rfl) dX6_topSpeedOf_29 (Nat.le_refl _) (Nat.le_refl _)
set_option maxRecDepth 100000 in
set_option maxHeartbeats 4000000 in
theorem mX6_waitsOf_no (l : Launch) (D : va_G) (κ : Nat → ClassId) (Ad : Nat → Nat) (eo : Int32) (ip : Nat → Int32) (v nw aw od sv ot : Nat → Nat) (M : Nat) (x : Int32)  (hB : Bd M nw) (hx : isB (nw 2) x = false) : mM l yX6_waitsOf wsX6_waitsOf { frames := 2, cells := 0, slots := 0, locals := 43 } D κ Ad [.int (x)] eo ip v nw aw od sv ot (some (.int (nI 0))) eo ip (upN v 1 1) nw aw od sv ot := by
  refine zM_of (cc := cX6_waitsOf) (maxL := 2) (rt := (some .int)) [(0, .ref (Ad 0)), (1, .int (x))] (by decide +kernel) rfl (Nat.le_of_ble_eq_true rfl) rfl ?_
  intro p e s m args below meth c A C hr hk hnm
  have C : zC p s m args c cX6_waitsOf 2 wsX6_waitsOf RX6 D (zTy κ) A := C
  have hin : ∀ w ∈ wsX60, w ∈ wsX6_waitsOf := fun w h => List.mem_cons_of_mem _ (List.mem_append_right _ h)
  have k13 : Cond.fieldLink RX6 13 "PeatRailwayModel" "now" "[I" ∈ wsX6_waitsOf := by decide +kernel
  obtain ⟨hM1, hM2, ht0, hnb, hnt, hj, hp⟩ := id hB
  refine z_aload_n C dX6_waitsOf_0 0 rfl ?_
  refine z_iload_n C dX6_waitsOf_1 1 rfl ?_
  refine zm_call C (mX6_isTrain_no l D κ Ad _ _ _ _ _ _ _ _ M x hB hx) gX6_waitsOf_X6_isTrain rfl rfl rfl hdX6_isTrain ⟨Nat.le_of_ble_eq_true rfl, Nat.le_of_ble_eq_true rfl⟩ rfl (Nat.le_of_ble_eq_true rfl) dX6_waitsOf_2 ⟨Nat.zero_le _, Nat.zero_le _⟩ ?_
  refine zb_if_ne C 14 dX6_waitsOf_5 (by decide) (fun q => absurd q (by decide)) (fun _ => ?_)
  refine z_aload_n C dX6_waitsOf_8 0 rfl ?_
  refine z_iconst (v := nI 1) C dX6_waitsOf_9 (by decide) ?_
  refine zm_call C (mX6_refuse l D κ Ad _ _ _ _ _ _ _ _ 1) gX6_waitsOf_X6_refuse rfl rfl rfl hdX6_refuse ⟨Nat.le_of_ble_eq_true rfl, Nat.le_of_ble_eq_true rfl⟩ rfl (Nat.le_of_ble_eq_true rfl) dX6_waitsOf_10 ⟨Nat.zero_le _, Nat.zero_le _⟩ ?_
  exact z_iret C hr hk () (rfl) trivial (List.Perm.of_eq rfl) dX6_waitsOf_13 (Nat.le_refl _) (Nat.le_refl _)
theorem hdX6_waitsOf : yX6_waitsOf.cls = RX6 ∧ yX6_waitsOf.cls ≠ "java/lang/invoke/MethodHandle" ∧ yX6_waitsOf.cls ≠ "java/lang/invoke/VarHandle" ∧ (parseMethodDescriptor yX6_waitsOf.desc).map (fun d => d.parameters.length) = some 1 := by decide +kernel
set_option maxRecDepth 100000 in
set_option maxHeartbeats 4000000 in
theorem mX6_waitsOf_ok (l : Launch) (D : va_G) (κ : Nat → ClassId) (Ad : Nat → Nat) (eo : Int32) (ip : Nat → Int32) (v nw aw od sv ot : Nat → Nat) (M : Nat) (k : Nat) (hB : Bd M nw) (hk0 : k < nw 2) : mM l yX6_waitsOf wsX6_waitsOf { frames := 2, cells := 0, slots := 0, locals := 43 } D κ Ad [.int (nI k)] eo ip v nw aw od sv ot (some (.int (nI (nw (65 + 5 * k + 4))))) eo ip (upN v 1 0) nw aw od sv ot := by
  refine zM_of (cc := cX6_waitsOf) (maxL := 2) (rt := (some .int)) [(0, .ref (Ad 0)), (1, .int (nI k))] (by decide +kernel) rfl (Nat.le_of_ble_eq_true rfl) rfl ?_
  intro p e s m args below meth c A C hr hk hnm
  have C : zC p s m args c cX6_waitsOf 2 wsX6_waitsOf RX6 D (zTy κ) A := C
  have hin : ∀ w ∈ wsX60, w ∈ wsX6_waitsOf := fun w h => List.mem_cons_of_mem _ (List.mem_append_right _ h)
  have k13 : Cond.fieldLink RX6 13 "PeatRailwayModel" "now" "[I" ∈ wsX6_waitsOf := by decide +kernel
  obtain ⟨hM1, hM2, ht0, hnb, hnt, hj, hp⟩ := id hB
  refine z_aload_n C dX6_waitsOf_0 0 rfl ?_
  refine z_iload_n C dX6_waitsOf_1 1 rfl ?_
  refine zm_call C (mX6_isTrain_k l D κ Ad _ _ _ _ _ _ _ _ M k hB (by omega)) gX6_waitsOf_X6_isTrain rfl rfl rfl hdX6_isTrain ⟨Nat.le_of_ble_eq_true rfl, Nat.le_of_ble_eq_true rfl⟩ rfl (Nat.le_of_ble_eq_true rfl) dX6_waitsOf_2 ⟨Nat.zero_le _, Nat.zero_le _⟩ ?_
  refine zb_if_ne C 14 dX6_waitsOf_5 (by decide) (fun _ => ?_) (fun q => absurd q (by decide))
  refine z_aload_n C dX6_waitsOf_14 0 rfl ?_
  refine z_aload_n C dX6_waitsOf_15 0 rfl ?_
  refine zm_get_now C hin k13 dX6_waitsOf_16 ?_
  refine z_iload_n C dX6_waitsOf_19 1 rfl ?_
  refine zs_call C (mX6_t l D κ k) gX6_waitsOf_X6_t rfl rfl rfl hdX6_t ⟨Nat.le_of_ble_eq_true rfl, Nat.le_of_ble_eq_true rfl⟩ rfl (Nat.le_of_ble_eq_true rfl) dX6_waitsOf_20 ⟨Nat.zero_le _, Nat.zero_le _⟩ ?_
  refine z_iconst (v := nI 4) C dX6_waitsOf_23 (by decide) ?_
  refine zn_iadd C dX6_waitsOf_24 ?_
  refine zm_ald_now C (by omega) dX6_waitsOf_25 ?_
  have g1 : nw ((65 + 5 * k) + 4) ≤ M := hB.j (by omega) (by omega)
  refine zm_call C (mX6_told l D κ Ad _ _ _ _ _ _ _ _ (nI (nw ((65 + 5 * k) + 4)))) gX6_waitsOf_X6_told rfl rfl rfl hdX6_told ⟨Nat.le_of_ble_eq_true rfl, Nat.le_of_ble_eq_true rfl⟩ rfl (Nat.le_of_ble_eq_true rfl) dX6_waitsOf_26 ⟨Nat.zero_le _, Nat.zero_le _⟩ ?_
  exact z_iret C hr hk () (rfl) trivial (List.Perm.of_eq rfl) dX6_waitsOf_29 (Nat.le_refl _) (Nat.le_refl _)
set_option maxRecDepth 100000 in
set_option maxHeartbeats 4000000 in
theorem mX6_speedOf_no (l : Launch) (D : va_G) (κ : Nat → ClassId) (Ad : Nat → Nat) (eo : Int32) (ip : Nat → Int32) (v nw aw od sv ot : Nat → Nat) (M : Nat) (x : Int32)  (hB : Bd M nw) (hx : isB (nw 2) x = false) : mM l yX6_speedOf wsX6_speedOf { frames := 2, cells := 0, slots := 0, locals := 43 } D κ Ad [.int (x)] eo ip v nw aw od sv ot (some (.int (nI 0))) eo ip (upN v 1 1) nw aw od sv ot := by
  refine zM_of (cc := cX6_speedOf) (maxL := 2) (rt := (some .int)) [(0, .ref (Ad 0)), (1, .int (x))] (by decide +kernel) rfl (Nat.le_of_ble_eq_true rfl) rfl ?_
  intro p e s m args below meth c A C hr hk hnm
  have C : zC p s m args c cX6_speedOf 2 wsX6_speedOf RX6 D (zTy κ) A := C
  obtain ⟨hM1, hM2, ht0, hnb, hnt, hj, hp⟩ := id hB
  refine z_aload_n C dX6_speedOf_0 0 rfl ?_
  refine z_iload_n C dX6_speedOf_1 1 rfl ?_
  refine zm_call C (mX6_isTrain_no l D κ Ad _ _ _ _ _ _ _ _ M x hB hx) gX6_speedOf_X6_isTrain rfl rfl rfl hdX6_isTrain ⟨Nat.le_of_ble_eq_true rfl, Nat.le_of_ble_eq_true rfl⟩ rfl (Nat.le_of_ble_eq_true rfl) dX6_speedOf_2 ⟨Nat.zero_le _, Nat.zero_le _⟩ ?_
  refine zb_if_ne C 14 dX6_speedOf_5 (by decide) (fun q => absurd q (by decide)) (fun _ => ?_)
  refine z_aload_n C dX6_speedOf_8 0 rfl ?_
  refine z_iconst (v := nI 1) C dX6_speedOf_9 (by decide) ?_
  refine zm_call C (mX6_refuse l D κ Ad _ _ _ _ _ _ _ _ 1) gX6_speedOf_X6_refuse rfl rfl rfl hdX6_refuse ⟨Nat.le_of_ble_eq_true rfl, Nat.le_of_ble_eq_true rfl⟩ rfl (Nat.le_of_ble_eq_true rfl) dX6_speedOf_10 ⟨Nat.zero_le _, Nat.zero_le _⟩ ?_
  exact z_iret C hr hk () (rfl) trivial (List.Perm.of_eq rfl) dX6_speedOf_13 (Nat.le_refl _) (Nat.le_refl _)
theorem hdX6_speedOf : yX6_speedOf.cls = RX6 ∧ yX6_speedOf.cls ≠ "java/lang/invoke/MethodHandle" ∧ yX6_speedOf.cls ≠ "java/lang/invoke/VarHandle" ∧ (parseMethodDescriptor yX6_speedOf.desc).map (fun d => d.parameters.length) = some 1 := by decide +kernel
set_option maxRecDepth 100000 in
set_option maxHeartbeats 4000000 in
theorem mX6_speedOf_ok (l : Launch) (D : va_G) (κ : Nat → ClassId) (Ad : Nat → Nat) (eo : Int32) (ip : Nat → Int32) (v nw aw od sv ot : Nat → Nat) (M : Nat) (k : Nat) (hB : Bd M nw) (hk0 : k < nw 2) : mM l yX6_speedOf wsX6_speedOf { frames := 2, cells := 0, slots := 0, locals := 43 } D κ Ad [.int (nI k)] eo ip v nw aw od sv ot (some (.int (nI (spd nw k)))) eo ip (upN v 1 0) nw aw od sv ot := by
  refine zM_of (cc := cX6_speedOf) (maxL := 2) (rt := (some .int)) [(0, .ref (Ad 0)), (1, .int (nI k))] (by decide +kernel) rfl (Nat.le_of_ble_eq_true rfl) rfl ?_
  intro p e s m args below meth c A C hr hk hnm
  have C : zC p s m args c cX6_speedOf 2 wsX6_speedOf RX6 D (zTy κ) A := C
  obtain ⟨hM1, hM2, ht0, hnb, hnt, hj, hp⟩ := id hB
  refine z_aload_n C dX6_speedOf_0 0 rfl ?_
  refine z_iload_n C dX6_speedOf_1 1 rfl ?_
  refine zm_call C (mX6_isTrain_k l D κ Ad _ _ _ _ _ _ _ _ M k hB (by omega)) gX6_speedOf_X6_isTrain rfl rfl rfl hdX6_isTrain ⟨Nat.le_of_ble_eq_true rfl, Nat.le_of_ble_eq_true rfl⟩ rfl (Nat.le_of_ble_eq_true rfl) dX6_speedOf_2 ⟨Nat.zero_le _, Nat.zero_le _⟩ ?_
  refine zb_if_ne C 14 dX6_speedOf_5 (by decide) (fun _ => ?_) (fun q => absurd q (by decide))
  refine z_aload_n C dX6_speedOf_14 0 rfl ?_
  refine z_aload_n C dX6_speedOf_15 0 rfl ?_
  refine z_iload_n C dX6_speedOf_16 1 rfl ?_
  refine zm_call C (mX6_speed l D κ Ad _ _ _ _ _ _ _ _ M k hB (by omega)) gX6_speedOf_X6_speed rfl rfl rfl hdX6_speed ⟨Nat.le_of_ble_eq_true rfl, Nat.le_of_ble_eq_true rfl⟩ rfl (Nat.le_of_ble_eq_true rfl) dX6_speedOf_17 ⟨Nat.zero_le _, Nat.zero_le _⟩ ?_
  refine zm_call C (mX6_told l D κ Ad _ _ _ _ _ _ _ _ (nI (spd nw k))) gX6_speedOf_X6_told rfl rfl rfl hdX6_told ⟨Nat.le_of_ble_eq_true rfl, Nat.le_of_ble_eq_true rfl⟩ rfl (Nat.le_of_ble_eq_true rfl) dX6_speedOf_20 ⟨Nat.zero_le _, Nat.zero_le _⟩ ?_
  exact z_iret C hr hk () (rfl) trivial (List.Perm.of_eq rfl) dX6_speedOf_23 (Nat.le_refl _) (Nat.le_refl _)
set_option maxRecDepth 100000 in
set_option maxHeartbeats 4000000 in
theorem mX6_canEnter_no (l : Launch) (D : va_G) (κ : Nat → ClassId) (Ad : Nat → Nat) (eo : Int32) (ip : Nat → Int32) (v nw aw od sv ot : Nat → Nat) (M : Nat) (x : Int32)  (hB : Bd M nw) (hx : isB (nw 2) x = false) : mM l yX6_canEnter wsX6_canEnter { frames := 4, cells := 0, slots := 0, locals := 85 } D κ Ad [.int (x)] eo ip v nw aw od sv ot (some (.int (nI (false).toNat))) eo ip (upN v 1 1) nw aw od sv ot := by
  refine zM_of (cc := cX6_canEnter) (maxL := 2) (rt := (some .boolean)) [(0, .ref (Ad 0)), (1, .int (x))] (by decide +kernel) rfl (Nat.le_of_ble_eq_true rfl) rfl ?_
  intro p e s m args below meth c A C hr hk hnm
  have C : zC p s m args c cX6_canEnter 2 wsX6_canEnter RX6 D (zTy κ) A := C
  obtain ⟨hM1, hM2, ht0, hnb, hnt, hj, hp⟩ := id hB
  refine z_aload_n C dX6_canEnter_0 0 rfl ?_
  refine z_iload_n C dX6_canEnter_1 1 rfl ?_
  refine zm_call C (mX6_isTrain_no l D κ Ad _ _ _ _ _ _ _ _ M x hB hx) gX6_canEnter_X6_isTrain rfl rfl rfl hdX6_isTrain ⟨Nat.le_of_ble_eq_true rfl, Nat.le_of_ble_eq_true rfl⟩ rfl (Nat.le_of_ble_eq_true rfl) dX6_canEnter_2 ⟨Nat.zero_le _, Nat.zero_le _⟩ ?_
  refine zb_if_ne C 13 dX6_canEnter_5 (by decide) (fun q => absurd q (by decide)) (fun _ => ?_)
  refine z_aload_n C dX6_canEnter_8 0 rfl ?_
  refine zm_call C (mX6_refuses l D κ Ad _ _ _ _ _ _ _ _) gX6_canEnter_X6_refuses rfl rfl rfl hdX6_refuses ⟨Nat.le_of_ble_eq_true rfl, Nat.le_of_ble_eq_true rfl⟩ rfl (Nat.le_of_ble_eq_true rfl) dX6_canEnter_9 ⟨Nat.zero_le _, Nat.zero_le _⟩ ?_
  exact z_zret C hr hk (zb_nar _) () (rfl) trivial (List.Perm.of_eq rfl) dX6_canEnter_12 (Nat.le_refl _) (Nat.le_refl _)
theorem hdX6_canEnter : yX6_canEnter.cls = RX6 ∧ yX6_canEnter.cls ≠ "java/lang/invoke/MethodHandle" ∧ yX6_canEnter.cls ≠ "java/lang/invoke/VarHandle" ∧ (parseMethodDescriptor yX6_canEnter.desc).map (fun d => d.parameters.length) = some 1 := by decide +kernel
set_option maxRecDepth 100000 in
set_option maxHeartbeats 4000000 in
theorem mX6_canEnter_ok (l : Launch) (D : va_G) (κ : Nat → ClassId) (Ad : Nat → Nat) (eo : Int32) (ip : Nat → Int32) (v nw aw od sv ot : Nat → Nat) (M : Nat) (k : Nat) (hB : Bd M nw) (hk0 : k < nw 2) : mM l yX6_canEnter wsX6_canEnter { frames := 4, cells := 0, slots := 0, locals := 85 } D κ Ad [.int (nI k)] eo ip v nw aw od sv ot (some (.int (nI (mayE nw k).toNat))) eo ip (upN v 1 0) nw aw od sv ot := by
  refine zM_of (cc := cX6_canEnter) (maxL := 2) (rt := (some .boolean)) [(0, .ref (Ad 0)), (1, .int (nI k))] (by decide +kernel) rfl (Nat.le_of_ble_eq_true rfl) rfl ?_
  intro p e s m args below meth c A C hr hk hnm
  have C : zC p s m args c cX6_canEnter 2 wsX6_canEnter RX6 D (zTy κ) A := C
  obtain ⟨hM1, hM2, ht0, hnb, hnt, hj, hp⟩ := id hB
  refine z_aload_n C dX6_canEnter_0 0 rfl ?_
  refine z_iload_n C dX6_canEnter_1 1 rfl ?_
  refine zm_call C (mX6_isTrain_k l D κ Ad _ _ _ _ _ _ _ _ M k hB (by omega)) gX6_canEnter_X6_isTrain rfl rfl rfl hdX6_isTrain ⟨Nat.le_of_ble_eq_true rfl, Nat.le_of_ble_eq_true rfl⟩ rfl (Nat.le_of_ble_eq_true rfl) dX6_canEnter_2 ⟨Nat.zero_le _, Nat.zero_le _⟩ ?_
  refine zb_if_ne C 13 dX6_canEnter_5 (by decide) (fun _ => ?_) (fun q => absurd q (by decide))
  refine z_aload_n C dX6_canEnter_13 0 rfl ?_
  refine z_aload_n C dX6_canEnter_14 0 rfl ?_
  refine z_iload_n C dX6_canEnter_15 1 rfl ?_
  refine zm_call C (mX6_mayEnter l D κ Ad _ _ _ _ _ _ _ _ M k hB (by omega)) gX6_canEnter_X6_mayEnter rfl rfl rfl hdX6_mayEnter ⟨Nat.le_of_ble_eq_true rfl, Nat.le_of_ble_eq_true rfl⟩ rfl (Nat.le_of_ble_eq_true rfl) dX6_canEnter_16 ⟨Nat.zero_le _, Nat.zero_le _⟩ ?_
  refine zm_call C (mX6_says l D κ Ad _ _ _ _ _ _ _ _ (mayE nw k)) gX6_canEnter_X6_says rfl rfl rfl hdX6_says ⟨Nat.le_of_ble_eq_true rfl, Nat.le_of_ble_eq_true rfl⟩ rfl (Nat.le_of_ble_eq_true rfl) dX6_canEnter_19 ⟨Nat.zero_le _, Nat.zero_le _⟩ ?_
  exact z_zret C hr hk (zb_nar _) () (rfl) trivial (List.Perm.of_eq rfl) dX6_canEnter_22 (Nat.le_refl _) (Nat.le_refl _)
set_option maxRecDepth 100000 in
set_option maxHeartbeats 4000000 in
theorem mX6_passages_no (l : Launch) (D : va_G) (κ : Nat → ClassId) (Ad : Nat → Nat) (eo : Int32) (ip : Nat → Int32) (v nw aw od sv ot : Nat → Nat) (M : Nat) (x y : Int32) (hB : Bd M nw) (hx : isB (nw 2) x = false) : mM l yX6_passages wsX6_passages { frames := 2, cells := 0, slots := 0, locals := 43 } D κ Ad [.int (x), .int (y)] eo ip v nw aw od sv ot (some (.int (nI 0))) eo ip (upN v 1 1) nw aw od sv ot := by
  refine zM_of (cc := cX6_passages) (maxL := 3) (rt := (some .int)) [(0, .ref (Ad 0)), (1, .int (x)), (2, .int (y))] (by decide +kernel) rfl (Nat.le_of_ble_eq_true rfl) rfl ?_
  intro p e s m args below meth c A C hr hk hnm
  have C : zC p s m args c cX6_passages 3 wsX6_passages RX6 D (zTy κ) A := C
  have hin : ∀ w ∈ wsX60, w ∈ wsX6_passages := fun w h => List.mem_cons_of_mem _ (List.mem_append_right _ h)
  have k13 : Cond.fieldLink RX6 13 "PeatRailwayModel" "now" "[I" ∈ wsX6_passages := by decide +kernel
  obtain ⟨hM1, hM2, ht0, hnb, hnt, hj, hp⟩ := id hB
  refine z_aload_n C dX6_passages_0 0 rfl ?_
  refine z_iload_n C dX6_passages_1 1 rfl ?_
  refine zm_call C (mX6_isTrain_no l D κ Ad _ _ _ _ _ _ _ _ M x hB hx) gX6_passages_X6_isTrain rfl rfl rfl hdX6_isTrain ⟨Nat.le_of_ble_eq_true rfl, Nat.le_of_ble_eq_true rfl⟩ rfl (Nat.le_of_ble_eq_true rfl) dX6_passages_2 ⟨Nat.zero_le _, Nat.zero_le _⟩ ?_
  refine zb_if_eq C 16 dX6_passages_5 (by decide) (fun _ => ?_) (fun q => absurd q (by decide))
  refine z_aload_n C dX6_passages_16 0 rfl ?_
  refine z_iconst (v := nI 1) C dX6_passages_17 (by decide) ?_
  refine zm_call C (mX6_refuse l D κ Ad _ _ _ _ _ _ _ _ 1) gX6_passages_X6_refuse rfl rfl rfl hdX6_refuse ⟨Nat.le_of_ble_eq_true rfl, Nat.le_of_ble_eq_true rfl⟩ rfl (Nat.le_of_ble_eq_true rfl) dX6_passages_18 ⟨Nat.zero_le _, Nat.zero_le _⟩ ?_
  exact z_iret C hr hk () (rfl) trivial (List.Perm.of_eq rfl) dX6_passages_21 (Nat.le_refl _) (Nat.le_refl _)
theorem hdX6_passages : yX6_passages.cls = RX6 ∧ yX6_passages.cls ≠ "java/lang/invoke/MethodHandle" ∧ yX6_passages.cls ≠ "java/lang/invoke/VarHandle" ∧ (parseMethodDescriptor yX6_passages.desc).map (fun d => d.parameters.length) = some 2 := by decide +kernel
set_option maxRecDepth 100000 in
set_option maxHeartbeats 4000000 in
theorem mX6_passages_nb (l : Launch) (D : va_G) (κ : Nat → ClassId) (Ad : Nat → Nat) (eo : Int32) (ip : Nat → Int32) (v nw aw od sv ot : Nat → Nat) (M : Nat) (k : Nat) (x : Int32) (hB : Bd M nw) (hk0 : k < nw 2) (hx : isB (nw 1) x = false) : mM l yX6_passages wsX6_passages { frames := 2, cells := 0, slots := 0, locals := 43 } D κ Ad [.int (nI k), .int (x)] eo ip v nw aw od sv ot (some (.int (nI 0))) eo ip (upN v 1 1) nw aw od sv ot := by
  refine zM_of (cc := cX6_passages) (maxL := 3) (rt := (some .int)) [(0, .ref (Ad 0)), (1, .int (nI k)), (2, .int (x))] (by decide +kernel) rfl (Nat.le_of_ble_eq_true rfl) rfl ?_
  intro p e s m args below meth c A C hr hk hnm
  have C : zC p s m args c cX6_passages 3 wsX6_passages RX6 D (zTy κ) A := C
  have hin : ∀ w ∈ wsX60, w ∈ wsX6_passages := fun w h => List.mem_cons_of_mem _ (List.mem_append_right _ h)
  have k13 : Cond.fieldLink RX6 13 "PeatRailwayModel" "now" "[I" ∈ wsX6_passages := by decide +kernel
  obtain ⟨hM1, hM2, ht0, hnb, hnt, hj, hp⟩ := id hB
  refine z_aload_n C dX6_passages_0 0 rfl ?_
  refine z_iload_n C dX6_passages_1 1 rfl ?_
  refine zm_call C (mX6_isTrain_k l D κ Ad _ _ _ _ _ _ _ _ M k hB (by omega)) gX6_passages_X6_isTrain rfl rfl rfl hdX6_isTrain ⟨Nat.le_of_ble_eq_true rfl, Nat.le_of_ble_eq_true rfl⟩ rfl (Nat.le_of_ble_eq_true rfl) dX6_passages_2 ⟨Nat.zero_le _, Nat.zero_le _⟩ ?_
  refine zb_if_eq C 16 dX6_passages_5 (by decide) (fun q => absurd q (by decide)) (fun _ => ?_)
  refine z_aload_n C dX6_passages_8 0 rfl ?_
  refine z_iload_n C dX6_passages_9 2 rfl ?_
  refine zm_call C (mX6_isBlock_no l D κ Ad _ _ _ _ _ _ _ _ M x hB hx) gX6_passages_X6_isBlock rfl rfl rfl hdX6_isBlock ⟨Nat.le_of_ble_eq_true rfl, Nat.le_of_ble_eq_true rfl⟩ rfl (Nat.le_of_ble_eq_true rfl) dX6_passages_10 ⟨Nat.zero_le _, Nat.zero_le _⟩ ?_
  refine zb_if_ne C 22 dX6_passages_13 (by decide) (fun q => absurd q (by decide)) (fun _ => ?_)
  refine z_aload_n C dX6_passages_16 0 rfl ?_
  refine z_iconst (v := nI 1) C dX6_passages_17 (by decide) ?_
  refine zm_call C (mX6_refuse l D κ Ad _ _ _ _ _ _ _ _ 1) gX6_passages_X6_refuse rfl rfl rfl hdX6_refuse ⟨Nat.le_of_ble_eq_true rfl, Nat.le_of_ble_eq_true rfl⟩ rfl (Nat.le_of_ble_eq_true rfl) dX6_passages_18 ⟨Nat.zero_le _, Nat.zero_le _⟩ ?_
  exact z_iret C hr hk () (rfl) trivial (List.Perm.of_eq rfl) dX6_passages_21 (Nat.le_refl _) (Nat.le_refl _)
set_option maxRecDepth 100000 in
set_option maxHeartbeats 4000000 in
theorem mX6_passages_ok (l : Launch) (D : va_G) (κ : Nat → ClassId) (Ad : Nat → Nat) (eo : Int32) (ip : Nat → Int32) (v nw aw od sv ot : Nat → Nat) (M : Nat) (k b : Nat) (hB : Bd M nw) (hk0 : k < nw 2) (hb : b < nw 1) : mM l yX6_passages wsX6_passages { frames := 2, cells := 0, slots := 0, locals := 43 } D κ Ad [.int (nI k), .int (nI b)] eo ip v nw aw od sv ot (some (.int (nI (nw (90 + 10 * k + b))))) eo ip (upN v 1 0) nw aw od sv ot := by
  refine zM_of (cc := cX6_passages) (maxL := 3) (rt := (some .int)) [(0, .ref (Ad 0)), (1, .int (nI k)), (2, .int (nI b))] (by decide +kernel) rfl (Nat.le_of_ble_eq_true rfl) rfl ?_
  intro p e s m args below meth c A C hr hk hnm
  have C : zC p s m args c cX6_passages 3 wsX6_passages RX6 D (zTy κ) A := C
  have hin : ∀ w ∈ wsX60, w ∈ wsX6_passages := fun w h => List.mem_cons_of_mem _ (List.mem_append_right _ h)
  have k13 : Cond.fieldLink RX6 13 "PeatRailwayModel" "now" "[I" ∈ wsX6_passages := by decide +kernel
  obtain ⟨hM1, hM2, ht0, hnb, hnt, hj, hp⟩ := id hB
  refine z_aload_n C dX6_passages_0 0 rfl ?_
  refine z_iload_n C dX6_passages_1 1 rfl ?_
  refine zm_call C (mX6_isTrain_k l D κ Ad _ _ _ _ _ _ _ _ M k hB (by omega)) gX6_passages_X6_isTrain rfl rfl rfl hdX6_isTrain ⟨Nat.le_of_ble_eq_true rfl, Nat.le_of_ble_eq_true rfl⟩ rfl (Nat.le_of_ble_eq_true rfl) dX6_passages_2 ⟨Nat.zero_le _, Nat.zero_le _⟩ ?_
  refine zb_if_eq C 16 dX6_passages_5 (by decide) (fun q => absurd q (by decide)) (fun _ => ?_)
  refine z_aload_n C dX6_passages_8 0 rfl ?_
  refine z_iload_n C dX6_passages_9 2 rfl ?_
  refine zm_call C (mX6_isBlock_k l D κ Ad _ _ _ _ _ _ _ _ M b hB (by omega)) gX6_passages_X6_isBlock rfl rfl rfl hdX6_isBlock ⟨Nat.le_of_ble_eq_true rfl, Nat.le_of_ble_eq_true rfl⟩ rfl (Nat.le_of_ble_eq_true rfl) dX6_passages_10 ⟨Nat.zero_le _, Nat.zero_le _⟩ ?_
  refine zb_if_ne C 22 dX6_passages_13 (by decide) (fun _ => ?_) (fun q => absurd q (by decide))
  refine z_aload_n C dX6_passages_22 0 rfl ?_
  refine z_aload_n C dX6_passages_23 0 rfl ?_
  refine zm_get_now C hin k13 dX6_passages_24 ?_
  refine z_iload_n C dX6_passages_27 1 rfl ?_
  refine z_iload_n C dX6_passages_28 2 rfl ?_
  refine zs_call C (mX6_passed l D κ k b) gX6_passages_X6_passed rfl rfl rfl hdX6_passed ⟨Nat.le_of_ble_eq_true rfl, Nat.le_of_ble_eq_true rfl⟩ rfl (Nat.le_of_ble_eq_true rfl) dX6_passages_29 ⟨Nat.zero_le _, Nat.zero_le _⟩ ?_
  refine zm_ald_now C (by omega) dX6_passages_32 ?_
  have g1 : nw (90 + 10 * k + b) ≤ M := hB.j (by omega) (by omega)
  refine zm_call C (mX6_told l D κ Ad _ _ _ _ _ _ _ _ (nI (nw (90 + 10 * k + b)))) gX6_passages_X6_told rfl rfl rfl hdX6_told ⟨Nat.le_of_ble_eq_true rfl, Nat.le_of_ble_eq_true rfl⟩ rfl (Nat.le_of_ble_eq_true rfl) dX6_passages_33 ⟨Nat.zero_le _, Nat.zero_le _⟩ ?_
  exact z_iret C hr hk () (rfl) trivial (List.Perm.of_eq rfl) dX6_passages_36 (Nat.le_refl _) (Nat.le_refl _)
set_option maxRecDepth 100000 in
set_option maxHeartbeats 4000000 in
theorem mX6_ticksToEnd_no (l : Launch) (D : va_G) (κ : Nat → ClassId) (Ad : Nat → Nat) (eo : Int32) (ip : Nat → Int32) (v nw aw od sv ot : Nat → Nat) (M : Nat) (x : Int32)  (hB : Bd M nw) (hx : isB (nw 2) x = false) : mM l yX6_ticksToEnd wsX6_ticksToEnd { frames := 2, cells := 0, slots := 0, locals := 43 } D κ Ad [.int (x)] eo ip v nw aw od sv ot (some (.int (nI 0))) eo ip (upN v 1 1) nw aw od sv ot := by
  refine zM_of (cc := cX6_ticksToEnd) (maxL := 3) (rt := (some .int)) [(0, .ref (Ad 0)), (1, .int (x))] (by decide +kernel) rfl (Nat.le_of_ble_eq_true rfl) rfl ?_
  intro p e s m args below meth c A C hr hk hnm
  have C : zC p s m args c cX6_ticksToEnd 3 wsX6_ticksToEnd RX6 D (zTy κ) A := C
  have hin : ∀ w ∈ wsX60, w ∈ wsX6_ticksToEnd := fun w h => List.mem_cons_of_mem _ (List.mem_append_right _ h)
  have k13 : Cond.fieldLink RX6 13 "PeatRailwayModel" "now" "[I" ∈ wsX6_ticksToEnd := by decide +kernel
  obtain ⟨hM1, hM2, ht0, hnb, hnt, hj, hp⟩ := id hB
  refine z_aload_n C dX6_ticksToEnd_0 0 rfl ?_
  refine z_iload_n C dX6_ticksToEnd_1 1 rfl ?_
  refine zm_call C (mX6_isTrain_no l D κ Ad _ _ _ _ _ _ _ _ M x hB hx) gX6_ticksToEnd_X6_isTrain rfl rfl rfl hdX6_isTrain ⟨Nat.le_of_ble_eq_true rfl, Nat.le_of_ble_eq_true rfl⟩ rfl (Nat.le_of_ble_eq_true rfl) dX6_ticksToEnd_2 ⟨Nat.zero_le _, Nat.zero_le _⟩ ?_
  refine zb_if_ne C 14 dX6_ticksToEnd_5 (by decide) (fun q => absurd q (by decide)) (fun _ => ?_)
  refine z_aload_n C dX6_ticksToEnd_8 0 rfl ?_
  refine z_iconst (v := nI 1) C dX6_ticksToEnd_9 (by decide) ?_
  refine zm_call C (mX6_refuse l D κ Ad _ _ _ _ _ _ _ _ 1) gX6_ticksToEnd_X6_refuse rfl rfl rfl hdX6_refuse ⟨Nat.le_of_ble_eq_true rfl, Nat.le_of_ble_eq_true rfl⟩ rfl (Nat.le_of_ble_eq_true rfl) dX6_ticksToEnd_10 ⟨Nat.zero_le _, Nat.zero_le _⟩ ?_
  exact z_iret C hr hk () (rfl) trivial (List.Perm.of_eq rfl) dX6_ticksToEnd_13 (Nat.le_refl _) (Nat.le_refl _)
theorem hdX6_ticksToEnd : yX6_ticksToEnd.cls = RX6 ∧ yX6_ticksToEnd.cls ≠ "java/lang/invoke/MethodHandle" ∧ yX6_ticksToEnd.cls ≠ "java/lang/invoke/VarHandle" ∧ (parseMethodDescriptor yX6_ticksToEnd.desc).map (fun d => d.parameters.length) = some 1 := by decide +kernel
set_option maxRecDepth 100000 in
set_option maxHeartbeats 4000000 in
theorem mX6_ticksToEnd_ok (l : Launch) (D : va_G) (κ : Nat → ClassId) (Ad : Nat → Nat) (eo : Int32) (ip : Nat → Int32) (v nw aw od sv ot : Nat → Nat) (M : Nat) (k : Nat) (hB : Bd M nw) (hk0 : k < nw 2) (hs : 0 < spd nw k) (hw : nw (65 + 5 * k + 3) ≤ nw (5 + 6 * nw (65 + 5 * k + 2) + 0)) : mM l yX6_ticksToEnd wsX6_ticksToEnd { frames := 2, cells := 0, slots := 0, locals := 43 } D κ Ad [.int (nI k)] eo ip v nw aw od sv ot (some (.int (nI ((nw (5 + 6 * nw (65 + 5 * k + 2) + 0) - nw (65 + 5 * k + 3) + spd nw k - 1) / spd nw k)))) eo ip (upN v 1 0) nw aw od sv ot := by
  refine zM_of (cc := cX6_ticksToEnd) (maxL := 3) (rt := (some .int)) [(0, .ref (Ad 0)), (1, .int (nI k))] (by decide +kernel) rfl (Nat.le_of_ble_eq_true rfl) rfl ?_
  intro p e s m args below meth c A C hr hk hnm
  have C : zC p s m args c cX6_ticksToEnd 3 wsX6_ticksToEnd RX6 D (zTy κ) A := C
  have hin : ∀ w ∈ wsX60, w ∈ wsX6_ticksToEnd := fun w h => List.mem_cons_of_mem _ (List.mem_append_right _ h)
  have k13 : Cond.fieldLink RX6 13 "PeatRailwayModel" "now" "[I" ∈ wsX6_ticksToEnd := by decide +kernel
  obtain ⟨hM1, hM2, ht0, hnb, hnt, hj, hp⟩ := id hB
  have hsp := spd_le hB hk0
  refine z_aload_n C dX6_ticksToEnd_0 0 rfl ?_
  refine z_iload_n C dX6_ticksToEnd_1 1 rfl ?_
  refine zm_call C (mX6_isTrain_k l D κ Ad _ _ _ _ _ _ _ _ M k hB (by omega)) gX6_ticksToEnd_X6_isTrain rfl rfl rfl hdX6_isTrain ⟨Nat.le_of_ble_eq_true rfl, Nat.le_of_ble_eq_true rfl⟩ rfl (Nat.le_of_ble_eq_true rfl) dX6_ticksToEnd_2 ⟨Nat.zero_le _, Nat.zero_le _⟩ ?_
  refine zb_if_ne C 14 dX6_ticksToEnd_5 (by decide) (fun _ => ?_) (fun q => absurd q (by decide))
  refine z_aload_n C dX6_ticksToEnd_14 0 rfl ?_
  refine zm_get_now C hin k13 dX6_ticksToEnd_15 ?_
  refine z_aload_n C dX6_ticksToEnd_18 0 rfl ?_
  refine zm_get_now C hin k13 dX6_ticksToEnd_19 ?_
  refine z_iload_n C dX6_ticksToEnd_22 1 rfl ?_
  refine zs_call C (mX6_t l D κ k) gX6_ticksToEnd_X6_t rfl rfl rfl hdX6_t ⟨Nat.le_of_ble_eq_true rfl, Nat.le_of_ble_eq_true rfl⟩ rfl (Nat.le_of_ble_eq_true rfl) dX6_ticksToEnd_23 ⟨Nat.zero_le _, Nat.zero_le _⟩ ?_
  refine z_iconst (v := nI 2) C dX6_ticksToEnd_26 (by decide) ?_
  refine zn_iadd C dX6_ticksToEnd_27 ?_
  refine zm_ald_now C (by omega) dX6_ticksToEnd_28 ?_
  have g1 : nw ((65 + 5 * k) + 2) ≤ M := hB.j (by omega) (by omega)
  have q2 : nw ((65 + 5 * k) + 2) < nw 1 := hB.p (t := k) (by omega)
  refine zs_call C (mX6_b l D κ (nw ((65 + 5 * k) + 2))) gX6_ticksToEnd_X6_b rfl rfl rfl hdX6_b ⟨Nat.le_of_ble_eq_true rfl, Nat.le_of_ble_eq_true rfl⟩ rfl (Nat.le_of_ble_eq_true rfl) dX6_ticksToEnd_29 ⟨Nat.zero_le _, Nat.zero_le _⟩ ?_
  refine z_iconst (v := nI 0) C dX6_ticksToEnd_32 (by decide) ?_
  refine zn_iadd C dX6_ticksToEnd_33 ?_
  refine zm_ald_now C (by omega) dX6_ticksToEnd_34 ?_
  have g3 : nw ((5 + 6 * (nw ((65 + 5 * k) + 2))) + 0) ≤ M := hB.j (by omega) (by omega)
  refine z_aload_n C dX6_ticksToEnd_35 0 rfl ?_
  refine zm_get_now C hin k13 dX6_ticksToEnd_36 ?_
  refine z_iload_n C dX6_ticksToEnd_39 1 rfl ?_
  refine zs_call C (mX6_t l D κ k) gX6_ticksToEnd_X6_t rfl rfl rfl hdX6_t ⟨Nat.le_of_ble_eq_true rfl, Nat.le_of_ble_eq_true rfl⟩ rfl (Nat.le_of_ble_eq_true rfl) dX6_ticksToEnd_40 ⟨Nat.zero_le _, Nat.zero_le _⟩ ?_
  refine z_iconst (v := nI 3) C dX6_ticksToEnd_43 (by decide) ?_
  refine zn_iadd C dX6_ticksToEnd_44 ?_
  refine zm_ald_now C (by omega) dX6_ticksToEnd_45 ?_
  have g4 : nw ((65 + 5 * k) + 3) ≤ M := hB.j (by omega) (by omega)
  refine zn_isub C dX6_ticksToEnd_46 (by omega) ?_
  refine z_istore_n C [(2, .int (nI ((nw ((5 + 6 * (nw ((65 + 5 * k) + 2))) + 0)) - (nw ((65 + 5 * k) + 3))))), (0, .ref (Ad 0)), (1, .int (nI k))] dX6_ticksToEnd_47 (by decide) rfl ?_
  refine z_aload_n C dX6_ticksToEnd_48 1 rfl ?_
  refine z_iload_n C dX6_ticksToEnd_49 0 rfl ?_
  refine z_aload_n C dX6_ticksToEnd_50 1 rfl ?_
  refine z_iload_n C dX6_ticksToEnd_51 2 rfl ?_
  refine zm_call C (mX6_speed l D κ Ad _ _ _ _ _ _ _ _ M k hB (by omega)) gX6_ticksToEnd_X6_speed rfl rfl rfl hdX6_speed ⟨Nat.le_of_ble_eq_true rfl, Nat.le_of_ble_eq_true rfl⟩ rfl (Nat.le_of_ble_eq_true rfl) dX6_ticksToEnd_52 ⟨Nat.zero_le _, Nat.zero_le _⟩ ?_
  refine zn_iadd C dX6_ticksToEnd_55 ?_
  refine z_iconst (v := nI 1) C dX6_ticksToEnd_56 (by decide) ?_
  refine zn_isub C dX6_ticksToEnd_57 (by omega) ?_
  refine z_aload_n C dX6_ticksToEnd_58 1 rfl ?_
  refine z_iload_n C dX6_ticksToEnd_59 2 rfl ?_
  refine zm_call C (mX6_speed l D κ Ad _ _ _ _ _ _ _ _ M k hB (by omega)) gX6_ticksToEnd_X6_speed rfl rfl rfl hdX6_speed ⟨Nat.le_of_ble_eq_true rfl, Nat.le_of_ble_eq_true rfl⟩ rfl (Nat.le_of_ble_eq_true rfl) dX6_ticksToEnd_60 ⟨Nat.zero_le _, Nat.zero_le _⟩ ?_
  refine zn_idiv C dX6_ticksToEnd_63 (by omega) (by omega) (by omega) ?_
  refine zm_call C (mX6_told l D κ Ad _ _ _ _ _ _ _ _ (nI (((((nw ((5 + 6 * (nw ((65 + 5 * k) + 2))) + 0)) - (nw ((65 + 5 * k) + 3))) + (spd nw k)) - 1) / (spd nw k)))) gX6_ticksToEnd_X6_told rfl rfl rfl hdX6_told ⟨Nat.le_of_ble_eq_true rfl, Nat.le_of_ble_eq_true rfl⟩ rfl (Nat.le_of_ble_eq_true rfl) dX6_ticksToEnd_64 ⟨Nat.zero_le _, Nat.zero_le _⟩ ?_
  exact z_iret C hr hk () (rfl) trivial (List.Perm.of_eq rfl) dX6_ticksToEnd_67 (Nat.le_refl _) (Nat.le_refl _)
set_option maxRecDepth 100000 in
set_option maxHeartbeats 4000000 in
theorem mX6_totalWagons (l : Launch) (D : va_G) (κ : Nat → ClassId) (Ad : Nat → Nat) (eo : Int32) (ip : Nat → Int32) (v nw aw od sv ot : Nat → Nat) (M : Nat)  (hB : Bd M nw) : mM l yX6_totalWagons wsX6_totalWagons { frames := 2, cells := 0, slots := 0, locals := 43 } D κ Ad [] eo ip v nw aw od sv ot (some (.int (nI (sumL (fun k => nw (65 + 5 * k + 0)) (nw 2))))) eo ip (upN v 1 0) nw aw od sv ot := by
  refine zM_of (cc := cX6_totalWagons) (maxL := 1) (rt := (some .int)) [(0, .ref (Ad 0))] (by decide +kernel) rfl (Nat.le_of_ble_eq_true rfl) rfl ?_
  intro p e s m args below meth c A C hr hk hnm
  have C : zC p s m args c cX6_totalWagons 1 wsX6_totalWagons RX6 D (zTy κ) A := C
  obtain ⟨hM1, hM2, ht0, hnb, hnt, hj, hp⟩ := id hB
  refine z_aload_n C dX6_totalWagons_0 0 rfl ?_
  refine z_aload_n C dX6_totalWagons_1 0 rfl ?_
  refine z_iconst (v := nI 0) C dX6_totalWagons_2 (by decide) ?_
  refine zm_call C (mX6_ofAllTrains l D κ Ad _ _ _ _ _ _ _ _ M 0 hB (by decide)) gX6_totalWagons_X6_ofAllTrains rfl rfl rfl hdX6_ofAllTrains ⟨Nat.le_of_ble_eq_true rfl, Nat.le_of_ble_eq_true rfl⟩ rfl (Nat.le_of_ble_eq_true rfl) dX6_totalWagons_3 ⟨Nat.zero_le _, Nat.zero_le _⟩ ?_
  refine zm_call C (mX6_told l D κ Ad _ _ _ _ _ _ _ _ (nI (sumL (fun i9 => nw (65 + 5 * i9 + 0)) (nw 2)))) gX6_totalWagons_X6_told rfl rfl rfl hdX6_told ⟨Nat.le_of_ble_eq_true rfl, Nat.le_of_ble_eq_true rfl⟩ rfl (Nat.le_of_ble_eq_true rfl) dX6_totalWagons_6 ⟨Nat.zero_le _, Nat.zero_le _⟩ ?_
  exact z_iret C hr hk () (rfl) trivial (List.Perm.of_eq rfl) dX6_totalWagons_9 (Nat.le_refl _) (Nat.le_refl _)
theorem hdX6_totalWagons : yX6_totalWagons.cls = RX6 ∧ yX6_totalWagons.cls ≠ "java/lang/invoke/MethodHandle" ∧ yX6_totalWagons.cls ≠ "java/lang/invoke/VarHandle" ∧ (parseMethodDescriptor yX6_totalWagons.desc).map (fun d => d.parameters.length) = some 0 := by decide +kernel
set_option maxRecDepth 100000 in
set_option maxHeartbeats 4000000 in
theorem mX6_lostWagons (l : Launch) (D : va_G) (κ : Nat → ClassId) (Ad : Nat → Nat) (eo : Int32) (ip : Nat → Int32) (v nw aw od sv ot : Nat → Nat) (M : Nat)  (hB : Bd M nw) : mM l yX6_lostWagons wsX6_lostWagons { frames := 2, cells := 0, slots := 0, locals := 43 } D κ Ad [] eo ip v nw aw od sv ot (some (.int (nI (sumL (fun k => nw (5 + 6 * k + 5)) (nw 1))))) eo ip (upN v 1 0) nw aw od sv ot := by
  refine zM_of (cc := cX6_lostWagons) (maxL := 1) (rt := (some .int)) [(0, .ref (Ad 0))] (by decide +kernel) rfl (Nat.le_of_ble_eq_true rfl) rfl ?_
  intro p e s m args below meth c A C hr hk hnm
  have C : zC p s m args c cX6_lostWagons 1 wsX6_lostWagons RX6 D (zTy κ) A := C
  obtain ⟨hM1, hM2, ht0, hnb, hnt, hj, hp⟩ := id hB
  refine z_aload_n C dX6_lostWagons_0 0 rfl ?_
  refine z_aload_n C dX6_lostWagons_1 0 rfl ?_
  refine z_iconst (v := nI 5) C dX6_lostWagons_2 (by decide) ?_
  refine zm_call C (mX6_ofAllBlocks l D κ Ad _ _ _ _ _ _ _ _ M 5 hB (by decide)) gX6_lostWagons_X6_ofAllBlocks rfl rfl rfl hdX6_ofAllBlocks ⟨Nat.le_of_ble_eq_true rfl, Nat.le_of_ble_eq_true rfl⟩ rfl (Nat.le_of_ble_eq_true rfl) dX6_lostWagons_3 ⟨Nat.zero_le _, Nat.zero_le _⟩ ?_
  refine zm_call C (mX6_told l D κ Ad _ _ _ _ _ _ _ _ (nI (sumL (fun i9 => nw (5 + 6 * i9 + 5)) (nw 1)))) gX6_lostWagons_X6_told rfl rfl rfl hdX6_told ⟨Nat.le_of_ble_eq_true rfl, Nat.le_of_ble_eq_true rfl⟩ rfl (Nat.le_of_ble_eq_true rfl) dX6_lostWagons_6 ⟨Nat.zero_le _, Nat.zero_le _⟩ ?_
  exact z_iret C hr hk () (rfl) trivial (List.Perm.of_eq rfl) dX6_lostWagons_9 (Nat.le_refl _) (Nat.le_refl _)
theorem hdX6_lostWagons : yX6_lostWagons.cls = RX6 ∧ yX6_lostWagons.cls ≠ "java/lang/invoke/MethodHandle" ∧ yX6_lostWagons.cls ≠ "java/lang/invoke/VarHandle" ∧ (parseMethodDescriptor yX6_lostWagons.desc).map (fun d => d.parameters.length) = some 0 := by decide +kernel
set_option maxRecDepth 100000 in
set_option maxHeartbeats 4000000 in
theorem mX6_removedWagons (l : Launch) (D : va_G) (κ : Nat → ClassId) (Ad : Nat → Nat) (eo : Int32) (ip : Nat → Int32) (v nw aw od sv ot : Nat → Nat) (M : Nat)  (hB : Bd M nw) : mM l yX6_removedWagons wsX6_removedWagons { frames := 1, cells := 0, slots := 0, locals := 21 } D κ Ad [] eo ip v nw aw od sv ot (some (.int (nI (nw 3)))) eo ip (upN v 1 0) nw aw od sv ot := by
  refine zM_of (cc := cX6_removedWagons) (maxL := 1) (rt := (some .int)) [(0, .ref (Ad 0))] (by decide +kernel) rfl (Nat.le_of_ble_eq_true rfl) rfl ?_
  intro p e s m args below meth c A C hr hk hnm
  have C : zC p s m args c cX6_removedWagons 1 wsX6_removedWagons RX6 D (zTy κ) A := C
  have hin : ∀ w ∈ wsX60, w ∈ wsX6_removedWagons := fun w h => List.mem_cons_of_mem _ (List.mem_append_right _ h)
  have k13 : Cond.fieldLink RX6 13 "PeatRailwayModel" "now" "[I" ∈ wsX6_removedWagons := by decide +kernel
  obtain ⟨hM1, hM2, ht0, hnb, hnt, hj, hp⟩ := id hB
  refine z_aload_n C dX6_removedWagons_0 0 rfl ?_
  refine z_aload_n C dX6_removedWagons_1 0 rfl ?_
  refine zm_get_now C hin k13 dX6_removedWagons_2 ?_
  refine z_iconst (v := nI 3) C dX6_removedWagons_5 (by decide) ?_
  refine zm_ald_now C (by omega) dX6_removedWagons_6 ?_
  refine zm_call C (mX6_told l D κ Ad _ _ _ _ _ _ _ _ (nI (nw 3))) gX6_removedWagons_X6_told rfl rfl rfl hdX6_told ⟨Nat.le_of_ble_eq_true rfl, Nat.le_of_ble_eq_true rfl⟩ rfl (Nat.le_of_ble_eq_true rfl) dX6_removedWagons_7 ⟨Nat.zero_le _, Nat.zero_le _⟩ ?_
  exact z_iret C hr hk () (rfl) trivial (List.Perm.of_eq rfl) dX6_removedWagons_10 (Nat.le_refl _) (Nat.le_refl _)
theorem hdX6_removedWagons : yX6_removedWagons.cls = RX6 ∧ yX6_removedWagons.cls ≠ "java/lang/invoke/MethodHandle" ∧ yX6_removedWagons.cls ≠ "java/lang/invoke/VarHandle" ∧ (parseMethodDescriptor yX6_removedWagons.desc).map (fun d => d.parameters.length) = some 0 := by decide +kernel
end M6
