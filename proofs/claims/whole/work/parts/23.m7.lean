section M7
theorem mX6_in_yes (l : Launch) (D : va_G) (κ : Nat → ClassId) (n a b : Nat) (h1 : a ≤ n) (h2 : n ≤ b) (hb : b < 2147483648) : sM l yX6_in wsX6_in { frames := 0, cells := 0, slots := 0, locals := 0 } D κ [.int (nI n), .int (nI a), .int (nI b)] (some (.int (nI (true).toNat))) := by
  have h := mX6_in l D κ (nI n) (nI a) (nI b)
  rw [inI_yes h1 h2 hb] at h
  exact h
theorem mX6_in_no (l : Launch) (D : va_G) (κ : Nat → ClassId) (x a b : Int32) (h : inI x a b = false) : sM l yX6_in wsX6_in { frames := 0, cells := 0, slots := 0, locals := 0 } D κ [.int x, .int a, .int b] (some (.int (nI (false).toNat))) := by
  have h2 := mX6_in l D κ x a b
  rw [h] at h2
  exact h2
set_option maxRecDepth 100000 in
set_option maxHeartbeats 4000000 in
theorem mX6_trainAhead_no (l : Launch) (D : va_G) (κ : Nat → ClassId) (Ad : Nat → Nat) (eo : Int32) (ip : Nat → Int32) (v nw aw od sv ot : Nat → Nat) (M : Nat) (x : Int32)  (hB : Bd M nw) (hx : isB (nw 2) x = false) : mM l yX6_trainAhead wsX6_trainAhead { frames := 2, cells := 0, slots := 0, locals := 43 } D κ Ad [.int (x)] eo ip v nw aw od sv ot (some (.int (nI 0))) eo ip (upN v 1 1) nw aw od sv ot := by
  refine zM_of (cc := cX6_trainAhead) (maxL := 4) (rt := (some .int)) [(0, .ref (Ad 0)), (1, .int (x))] (by decide +kernel) rfl (Nat.le_of_ble_eq_true rfl) rfl ?_
  intro p e s m args below meth c A C hr hk hnm
  have C : zC p s m args c cX6_trainAhead 4 wsX6_trainAhead RX6 D (zTy κ) A := C
  have hin : ∀ w ∈ wsX60, w ∈ wsX6_trainAhead := fun w h => List.mem_cons_of_mem _ (List.mem_append_right _ h)
  have k13 : Cond.fieldLink RX6 13 "PeatRailwayModel" "now" "[I" ∈ wsX6_trainAhead := by decide +kernel
  obtain ⟨hM1, hM2, ht0, hnb, hnt, hj, hp⟩ := id hB
  refine z_aload_n C dX6_trainAhead_0 0 rfl ?_
  refine z_iload_n C dX6_trainAhead_1 1 rfl ?_
  refine zm_call C (mX6_isTrain_no l D κ Ad _ _ _ _ _ _ _ _ M x hB hx) gX6_trainAhead_X6_isTrain rfl rfl rfl hdX6_isTrain ⟨Nat.le_of_ble_eq_true rfl, Nat.le_of_ble_eq_true rfl⟩ rfl (Nat.le_of_ble_eq_true rfl) dX6_trainAhead_2 ⟨Nat.zero_le _, Nat.zero_le _⟩ ?_
  refine zb_if_ne C 14 dX6_trainAhead_5 (by decide) (fun q => absurd q (by decide)) (fun _ => ?_)
  refine z_aload_n C dX6_trainAhead_8 0 rfl ?_
  refine z_iconst (v := nI 1) C dX6_trainAhead_9 (by decide) ?_
  refine zm_call C (mX6_refuse l D κ Ad _ _ _ _ _ _ _ _ 1) gX6_trainAhead_X6_refuse rfl rfl rfl hdX6_refuse ⟨Nat.le_of_ble_eq_true rfl, Nat.le_of_ble_eq_true rfl⟩ rfl (Nat.le_of_ble_eq_true rfl) dX6_trainAhead_10 ⟨Nat.zero_le _, Nat.zero_le _⟩ ?_
  exact z_iret C hr hk () (rfl) trivial (List.Perm.of_eq rfl) dX6_trainAhead_13 (Nat.le_refl _) (Nat.le_refl _)
theorem hdX6_trainAhead : yX6_trainAhead.cls = RX6 ∧ yX6_trainAhead.cls ≠ "java/lang/invoke/MethodHandle" ∧ yX6_trainAhead.cls ≠ "java/lang/invoke/VarHandle" ∧ (parseMethodDescriptor yX6_trainAhead.desc).map (fun d => d.parameters.length) = some 1 := by decide +kernel
set_option maxRecDepth 100000 in
set_option maxHeartbeats 4000000 in
theorem mX6_trainAhead_ok (l : Launch) (D : va_G) (κ : Nat → ClassId) (Ad : Nat → Nat) (eo : Int32) (ip : Nat → Int32) (v nw aw od sv ot : Nat → Nat) (M : Nat) (t : Nat) (hB : Bd M nw) (hk0 : t < nw 2) : mM l yX6_trainAhead wsX6_trainAhead { frames := 2, cells := 0, slots := 0, locals := 43 } D κ Ad [.int (nI t)] eo ip v nw aw od sv ot (some (.int (tI (ahT nw t)))) eo ip (upN v 1 0) nw aw od sv ot := by
  refine zM_of (cc := cX6_trainAhead) (maxL := 4) (rt := (some .int)) [(0, .ref (Ad 0)), (1, .int (nI t))] (by decide +kernel) rfl (Nat.le_of_ble_eq_true rfl) rfl ?_
  intro p e s m args below meth c A C hr hk hnm
  have C : zC p s m args c cX6_trainAhead 4 wsX6_trainAhead RX6 D (zTy κ) A := C
  have hin : ∀ w ∈ wsX60, w ∈ wsX6_trainAhead := fun w h => List.mem_cons_of_mem _ (List.mem_append_right _ h)
  have k13 : Cond.fieldLink RX6 13 "PeatRailwayModel" "now" "[I" ∈ wsX6_trainAhead := by decide +kernel
  obtain ⟨hM1, hM2, ht0, hnb, hnt, hj, hp⟩ := id hB
  obtain ⟨p0, hp0⟩ : ∃ p0, p0 = nw (65 + 5 * t + 2) := ⟨_, rfl⟩
  have hp1 : p0 < nw 1 := by rw [hp0]; exact hB.p hk0
  have haf := aft_lt hp1
  refine z_aload_n C dX6_trainAhead_0 0 rfl ?_
  refine z_iload_n C dX6_trainAhead_1 1 rfl ?_
  refine zm_call C (mX6_isTrain_k l D κ Ad _ _ _ _ _ _ _ _ M t hB (by omega)) gX6_trainAhead_X6_isTrain rfl rfl rfl hdX6_isTrain ⟨Nat.le_of_ble_eq_true rfl, Nat.le_of_ble_eq_true rfl⟩ rfl (Nat.le_of_ble_eq_true rfl) dX6_trainAhead_2 ⟨Nat.zero_le _, Nat.zero_le _⟩ ?_
  refine zb_if_ne C 14 dX6_trainAhead_5 (by decide) (fun _ => ?_) (fun q => absurd q (by decide))
  refine z_aload_n C dX6_trainAhead_14 0 rfl ?_
  refine z_aload_n C dX6_trainAhead_15 0 rfl ?_
  refine zm_get_now C hin k13 dX6_trainAhead_16 ?_
  refine z_iload_n C dX6_trainAhead_19 1 rfl ?_
  refine zs_call C (mX6_t l D κ t) gX6_trainAhead_X6_t rfl rfl rfl hdX6_t ⟨Nat.le_of_ble_eq_true rfl, Nat.le_of_ble_eq_true rfl⟩ rfl (Nat.le_of_ble_eq_true rfl) dX6_trainAhead_20 ⟨Nat.zero_le _, Nat.zero_le _⟩ ?_
  refine z_iconst (v := nI 2) C dX6_trainAhead_23 (by decide) ?_
  refine zn_iadd C dX6_trainAhead_24 ?_
  refine zm_ald_now C (by omega) dX6_trainAhead_25 ?_
  have g1 : nw ((65 + 5 * t) + 2) ≤ M := hB.j (by omega) (by omega)
  have q2 : nw ((65 + 5 * t) + 2) < nw 1 := hB.p (t := t) (by omega)
  rw [← hp0]
  refine zm_call C (mX6_after l D κ Ad _ _ _ _ _ _ _ _ M p0 hB (by omega)) gX6_trainAhead_X6_after rfl rfl rfl hdX6_after ⟨Nat.le_of_ble_eq_true rfl, Nat.le_of_ble_eq_true rfl⟩ rfl (Nat.le_of_ble_eq_true rfl) dX6_trainAhead_26 ⟨Nat.zero_le _, Nat.zero_le _⟩ ?_
  refine z_istore_n C [(2, .int (nI (aft nw p0))), (0, .ref (Ad 0)), (1, .int (nI t))] dX6_trainAhead_29 (by decide) rfl ?_
  refine z_lv [1, 2, 0] rfl ?_
  refine z_loop (σ := Nat) (fun b => MW κ Ad eo ip v nw aw od sv ot) (fun b => [(0, .ref (Ad 0)), (1, .int (nI t)), (2, .int (nI b))]) (fun b => b < nw 1 ∧ ahd nw (dst nw p0 b) b = ahB nw t) (fun b => dst nw p0 b) (aft nw p0) (⟨haf, by rw [ahB, ← hp0]⟩) rfl rfl ?_
  rintro b hI30 ih30
  obtain ⟨hk1, hk2⟩ := hI30
  have htr := trAt_le nw b
  refine z_aload_n C dX6_trainAhead_30 0 rfl ?_
  refine z_iload_n C dX6_trainAhead_31 2 rfl ?_
  refine zm_call C (mX6_trainAt l D κ Ad _ _ _ _ _ _ _ _ M b hB (by omega)) gX6_trainAhead_X6_trainAt rfl rfl rfl hdX6_trainAt ⟨Nat.le_of_ble_eq_true rfl, Nat.le_of_ble_eq_true rfl⟩ rfl (Nat.le_of_ble_eq_true rfl) dX6_trainAhead_32 ⟨Nat.zero_le _, Nat.zero_le _⟩ ?_
  refine z_iconst (v := (-1)) C dX6_trainAhead_35 (by decide) ?_
  refine zt_icmp_ne C 48 dX6_trainAhead_36 (by decide) (by omega) (fun h3 => ?_) (fun h4 => ?_)
  · have hz : 0 < trAt nw b := h3
    have hab : ahB nw t = b := by
      rw [← hk2]
      cases hq : dst nw p0 b with
      | zero => rfl
      | succ n => simp only [ahd]; rw [if_neg (by omega)]
    refine z_aload_n C dX6_trainAhead_48 0 rfl ?_
    refine z_iload_n C dX6_trainAhead_49 2 rfl ?_
    refine zm_call C (mX6_trainAt l D κ Ad _ _ _ _ _ _ _ _ M b hB (by omega)) gX6_trainAhead_X6_trainAt rfl rfl rfl hdX6_trainAt ⟨Nat.le_of_ble_eq_true rfl, Nat.le_of_ble_eq_true rfl⟩ rfl (Nat.le_of_ble_eq_true rfl) dX6_trainAhead_50 ⟨Nat.zero_le _, Nat.zero_le _⟩ ?_
    obtain ⟨d, hd⟩ : ∃ d, trAt nw b = d + 1 := ⟨trAt nw b - 1, by omega⟩
    rw [hd, tI_s]
    refine z_istore_n C [(3, .int (nI d)), (0, .ref (Ad 0)), (1, .int (nI t)), (2, .int (nI b))] dX6_trainAhead_53 (by decide) rfl ?_
    refine z_iload_n C dX6_trainAhead_54 0 rfl ?_
    refine z_iload_n C dX6_trainAhead_55 2 rfl ?_
    refine zn_icmp_ne C 65 dX6_trainAhead_56 (by decide) (by omega) (by omega) (fun h5 => ?_) (fun h6 => ?_)
    · refine z_aload_n C dX6_trainAhead_65 1 rfl ?_
      refine z_iload_n C dX6_trainAhead_66 0 rfl ?_
      refine zm_call C (mX6_told l D κ Ad _ _ _ _ _ _ _ _ (nI d)) gX6_trainAhead_X6_told rfl rfl rfl hdX6_told ⟨Nat.le_of_ble_eq_true rfl, Nat.le_of_ble_eq_true rfl⟩ rfl (Nat.le_of_ble_eq_true rfl) dX6_trainAhead_67 ⟨Nat.zero_le _, Nat.zero_le _⟩ ?_
      exact z_iret C hr hk () (congrArg (fun x => some (Value.int (tI x))) (show ahT nw t = d + 1 by simp only [ahT]; rw [hab, hd, if_neg (by omega)])) trivial (List.Perm.of_eq rfl) dX6_trainAhead_70 (Nat.le_refl _) (Nat.le_refl _)
    · refine z_aload_n C dX6_trainAhead_59 1 rfl ?_
      refine z_iconst (v := (-1)) C dX6_trainAhead_60 (by decide) ?_
      refine zm_call C (mX6_told l D κ Ad _ _ _ _ _ _ _ _ (((-1 : Int32)))) gX6_trainAhead_X6_told rfl rfl rfl hdX6_told ⟨Nat.le_of_ble_eq_true rfl, Nat.le_of_ble_eq_true rfl⟩ rfl (Nat.le_of_ble_eq_true rfl) dX6_trainAhead_61 ⟨Nat.zero_le _, Nat.zero_le _⟩ ?_
      exact z_iret C hr hk () (congrArg (fun x => some (Value.int (tI x))) (show ahT nw t = 0 by simp only [ahT]; rw [hab, hd, if_pos (by omega)])) trivial (List.Perm.of_eq rfl) dX6_trainAhead_64 (Nat.le_refl _) (Nat.le_refl _)
  · have hz : trAt nw b = 0 := h4
    have hne : b ≠ p0 := fun q => by have := trAt_pos (σ := nw) hk0; rw [← hp0, ← q] at this; omega
    have hds := dst_aft hp1 hk1 hne
    refine z_aload_n C dX6_trainAhead_39 0 rfl ?_
    refine z_iload_n C dX6_trainAhead_40 2 rfl ?_
    refine zm_call C (mX6_after l D κ Ad _ _ _ _ _ _ _ _ M b hB (by omega)) gX6_trainAhead_X6_after rfl rfl rfl hdX6_after ⟨Nat.le_of_ble_eq_true rfl, Nat.le_of_ble_eq_true rfl⟩ rfl (Nat.le_of_ble_eq_true rfl) dX6_trainAhead_41 ⟨Nat.zero_le _, Nat.zero_le _⟩ ?_
    refine z_istore_n C [(2, .int (nI (aft nw b))), (0, .ref (Ad 0)), (1, .int (nI t))] dX6_trainAhead_44 (by decide) rfl ?_
    refine z_goto (tgt := 30) C dX6_trainAhead_45 (by decide) ?_
    refine z_lv [1, 2, 0] rfl ?_
    exact ih30 (aft nw b) ⟨aft_lt hk1, by rw [← hk2, ← hds]; simp only [ahd]; rw [if_pos hz]⟩ (by omega)
set_option maxRecDepth 100000 in
set_option maxHeartbeats 4000000 in
theorem mX6_clearBlocksAhead_no (l : Launch) (D : va_G) (κ : Nat → ClassId) (Ad : Nat → Nat) (eo : Int32) (ip : Nat → Int32) (v nw aw od sv ot : Nat → Nat) (M : Nat) (x : Int32)  (hB : Bd M nw) (hx : isB (nw 2) x = false) : mM l yX6_clearBlocksAhead wsX6_clearBlocksAhead { frames := 3, cells := 0, slots := 0, locals := 63 } D κ Ad [.int (x)] eo ip v nw aw od sv ot (some (.int (nI 0))) eo ip (upN v 1 1) nw aw od sv ot := by
  refine zM_of (cc := cX6_clearBlocksAhead) (maxL := 4) (rt := (some .int)) [(0, .ref (Ad 0)), (1, .int (x))] (by decide +kernel) rfl (Nat.le_of_ble_eq_true rfl) rfl ?_
  intro p e s m args below meth c A C hr hk hnm
  have C : zC p s m args c cX6_clearBlocksAhead 4 wsX6_clearBlocksAhead RX6 D (zTy κ) A := C
  have hin : ∀ w ∈ wsX60, w ∈ wsX6_clearBlocksAhead := fun w h => List.mem_cons_of_mem _ (List.mem_append_right _ h)
  have k13 : Cond.fieldLink RX6 13 "PeatRailwayModel" "now" "[I" ∈ wsX6_clearBlocksAhead := by decide +kernel
  obtain ⟨hM1, hM2, ht0, hnb, hnt, hj, hp⟩ := id hB
  refine z_aload_n C dX6_clearBlocksAhead_0 0 rfl ?_
  refine z_iload_n C dX6_clearBlocksAhead_1 1 rfl ?_
  refine zm_call C (mX6_isTrain_no l D κ Ad _ _ _ _ _ _ _ _ M x hB hx) gX6_clearBlocksAhead_X6_isTrain rfl rfl rfl hdX6_isTrain ⟨Nat.le_of_ble_eq_true rfl, Nat.le_of_ble_eq_true rfl⟩ rfl (Nat.le_of_ble_eq_true rfl) dX6_clearBlocksAhead_2 ⟨Nat.zero_le _, Nat.zero_le _⟩ ?_
  refine zb_if_ne C 14 dX6_clearBlocksAhead_5 (by decide) (fun q => absurd q (by decide)) (fun _ => ?_)
  refine z_aload_n C dX6_clearBlocksAhead_8 0 rfl ?_
  refine z_iconst (v := nI 1) C dX6_clearBlocksAhead_9 (by decide) ?_
  refine zm_call C (mX6_refuse l D κ Ad _ _ _ _ _ _ _ _ 1) gX6_clearBlocksAhead_X6_refuse rfl rfl rfl hdX6_refuse ⟨Nat.le_of_ble_eq_true rfl, Nat.le_of_ble_eq_true rfl⟩ rfl (Nat.le_of_ble_eq_true rfl) dX6_clearBlocksAhead_10 ⟨Nat.zero_le _, Nat.zero_le _⟩ ?_
  exact z_iret C hr hk () (rfl) trivial (List.Perm.of_eq rfl) dX6_clearBlocksAhead_13 (Nat.le_refl _) (Nat.le_refl _)
theorem hdX6_clearBlocksAhead : yX6_clearBlocksAhead.cls = RX6 ∧ yX6_clearBlocksAhead.cls ≠ "java/lang/invoke/MethodHandle" ∧ yX6_clearBlocksAhead.cls ≠ "java/lang/invoke/VarHandle" ∧ (parseMethodDescriptor yX6_clearBlocksAhead.desc).map (fun d => d.parameters.length) = some 1 := by decide +kernel
set_option maxRecDepth 100000 in
set_option maxHeartbeats 4000000 in
theorem mX6_clearBlocksAhead_ok (l : Launch) (D : va_G) (κ : Nat → ClassId) (Ad : Nat → Nat) (eo : Int32) (ip : Nat → Int32) (v nw aw od sv ot : Nat → Nat) (M : Nat) (t : Nat) (hB : Bd M nw) (hk0 : t < nw 2) : mM l yX6_clearBlocksAhead wsX6_clearBlocksAhead { frames := 3, cells := 0, slots := 0, locals := 63 } D κ Ad [.int (nI t)] eo ip v nw aw od sv ot (some (.int (nI (cbA nw t)))) eo ip (upN v 1 0) nw aw od sv ot := by
  refine zM_of (cc := cX6_clearBlocksAhead) (maxL := 4) (rt := (some .int)) [(0, .ref (Ad 0)), (1, .int (nI t))] (by decide +kernel) rfl (Nat.le_of_ble_eq_true rfl) rfl ?_
  intro p e s m args below meth c A C hr hk hnm
  have C : zC p s m args c cX6_clearBlocksAhead 4 wsX6_clearBlocksAhead RX6 D (zTy κ) A := C
  have hin : ∀ w ∈ wsX60, w ∈ wsX6_clearBlocksAhead := fun w h => List.mem_cons_of_mem _ (List.mem_append_right _ h)
  have k13 : Cond.fieldLink RX6 13 "PeatRailwayModel" "now" "[I" ∈ wsX6_clearBlocksAhead := by decide +kernel
  obtain ⟨hM1, hM2, ht0, hnb, hnt, hj, hp⟩ := id hB
  obtain ⟨p0, hp0⟩ : ∃ p0, p0 = nw (65 + 5 * t + 2) := ⟨_, rfl⟩
  have hp1 : p0 < nw 1 := by rw [hp0]; exact hB.p hk0
  have haf := aft_lt hp1
  refine z_aload_n C dX6_clearBlocksAhead_0 0 rfl ?_
  refine z_iload_n C dX6_clearBlocksAhead_1 1 rfl ?_
  refine zm_call C (mX6_isTrain_k l D κ Ad _ _ _ _ _ _ _ _ M t hB (by omega)) gX6_clearBlocksAhead_X6_isTrain rfl rfl rfl hdX6_isTrain ⟨Nat.le_of_ble_eq_true rfl, Nat.le_of_ble_eq_true rfl⟩ rfl (Nat.le_of_ble_eq_true rfl) dX6_clearBlocksAhead_2 ⟨Nat.zero_le _, Nat.zero_le _⟩ ?_
  refine zb_if_ne C 14 dX6_clearBlocksAhead_5 (by decide) (fun _ => ?_) (fun q => absurd q (by decide))
  refine z_iconst (v := nI 0) C dX6_clearBlocksAhead_14 (by decide) ?_
  refine z_istore_n C [(2, .int (nI 0)), (0, .ref (Ad 0)), (1, .int (nI t))] dX6_clearBlocksAhead_15 (by decide) rfl ?_
  refine z_aload_n C dX6_clearBlocksAhead_16 1 rfl ?_
  refine z_aload_n C dX6_clearBlocksAhead_17 1 rfl ?_
  refine zm_get_now C hin k13 dX6_clearBlocksAhead_18 ?_
  refine z_iload_n C dX6_clearBlocksAhead_21 2 rfl ?_
  refine zs_call C (mX6_t l D κ t) gX6_clearBlocksAhead_X6_t rfl rfl rfl hdX6_t ⟨Nat.le_of_ble_eq_true rfl, Nat.le_of_ble_eq_true rfl⟩ rfl (Nat.le_of_ble_eq_true rfl) dX6_clearBlocksAhead_22 ⟨Nat.zero_le _, Nat.zero_le _⟩ ?_
  refine z_iconst (v := nI 2) C dX6_clearBlocksAhead_25 (by decide) ?_
  refine zn_iadd C dX6_clearBlocksAhead_26 ?_
  refine zm_ald_now C (by omega) dX6_clearBlocksAhead_27 ?_
  have g1 : nw ((65 + 5 * t) + 2) ≤ M := hB.j (by omega) (by omega)
  have q2 : nw ((65 + 5 * t) + 2) < nw 1 := hB.p (t := t) (by omega)
  rw [← hp0]
  refine zm_call C (mX6_after l D κ Ad _ _ _ _ _ _ _ _ M p0 hB (by omega)) gX6_clearBlocksAhead_X6_after rfl rfl rfl hdX6_after ⟨Nat.le_of_ble_eq_true rfl, Nat.le_of_ble_eq_true rfl⟩ rfl (Nat.le_of_ble_eq_true rfl) dX6_clearBlocksAhead_28 ⟨Nat.zero_le _, Nat.zero_le _⟩ ?_
  refine z_istore_n C [(3, .int (nI (aft nw p0))), (2, .int (nI 0)), (0, .ref (Ad 0)), (1, .int (nI t))] dX6_clearBlocksAhead_31 (by decide) rfl ?_
  refine z_lv [2, 3, 1, 0] rfl ?_
  refine z_loop (σ := Nat × Nat) (fun x => MW κ Ad eo ip v nw aw od sv ot) (fun x => [(0, .ref (Ad 0)), (1, .int (nI t)), (2, .int (nI x.2)), (3, .int (nI x.1))]) (fun x => x.1 < nw 1 ∧ x.2 + cbL nw (dst nw p0 x.1 + 1) x.1 = cbA nw t) (fun x => dst nw p0 x.1) ((aft nw p0, 0)) (⟨haf, by dsimp only; rw [cbA, ← hp0, Nat.zero_add]⟩) rfl rfl ?_
  rintro ⟨b, n⟩ hI32 ih32
  dsimp only at hI32 ih32 ⊢
  obtain ⟨hk1, hk2⟩ := hI32
  refine z_aload_n C dX6_clearBlocksAhead_32 0 rfl ?_
  refine z_iload_n C dX6_clearBlocksAhead_33 3 rfl ?_
  refine zm_call C (mX6_isOccupied l D κ Ad _ _ _ _ _ _ _ _ M b hB (by omega)) gX6_clearBlocksAhead_X6_isOccupied rfl rfl rfl hdX6_isOccupied ⟨Nat.le_of_ble_eq_true rfl, Nat.le_of_ble_eq_true rfl⟩ rfl (Nat.le_of_ble_eq_true rfl) dX6_clearBlocksAhead_34 ⟨Nat.zero_le _, Nat.zero_le _⟩ ?_
  refine zb_if_ne C 52 dX6_clearBlocksAhead_37 (by decide) (fun h3 => ?_) (fun h4 => ?_)
  · refine z_aload_n C dX6_clearBlocksAhead_52 0 rfl ?_
    refine z_iload_n C dX6_clearBlocksAhead_53 2 rfl ?_
    refine zm_call C (mX6_told l D κ Ad _ _ _ _ _ _ _ _ (nI n)) gX6_clearBlocksAhead_X6_told rfl rfl rfl hdX6_told ⟨Nat.le_of_ble_eq_true rfl, Nat.le_of_ble_eq_true rfl⟩ rfl (Nat.le_of_ble_eq_true rfl) dX6_clearBlocksAhead_54 ⟨Nat.zero_le _, Nat.zero_le _⟩ ?_
    exact z_iret C hr hk () (congrArg (fun x : Nat => some (Value.int (nI x))) (show cbA nw t = n by rw [← hk2]; simp only [cbL]; rw [h3]; rfl)) trivial (List.Perm.of_eq rfl) dX6_clearBlocksAhead_57 (Nat.le_refl _) (Nat.le_refl _)
  · have hz : occ nw b = false := h4
    have hne : b ≠ p0 := fun q => by have h9 := occ_pl (σ := nw) hk0; rw [← hp0, ← q, hz] at h9; exact absurd h9 (by decide)
    have hds := dst_aft hp1 hk1 hne
    refine z_aload_n C dX6_clearBlocksAhead_40 0 rfl ?_
    refine z_iload_n C dX6_clearBlocksAhead_41 3 rfl ?_
    refine zm_call C (mX6_after l D κ Ad _ _ _ _ _ _ _ _ M b hB (by omega)) gX6_clearBlocksAhead_X6_after rfl rfl rfl hdX6_after ⟨Nat.le_of_ble_eq_true rfl, Nat.le_of_ble_eq_true rfl⟩ rfl (Nat.le_of_ble_eq_true rfl) dX6_clearBlocksAhead_42 ⟨Nat.zero_le _, Nat.zero_le _⟩ ?_
    refine z_istore_n C [(3, .int (nI (aft nw b))), (0, .ref (Ad 0)), (1, .int (nI t)), (2, .int (nI n))] dX6_clearBlocksAhead_45 (by decide) rfl ?_
    refine zn_iinc (n := 1) C [(2, .int (nI (n + 1))), (3, .int (nI (aft nw b))), (0, .ref (Ad 0)), (1, .int (nI t))] dX6_clearBlocksAhead_46 3 rfl (by decide) rfl ?_
    refine z_goto (tgt := 32) C dX6_clearBlocksAhead_49 (by decide) ?_
    refine z_lv [2, 3, 0, 1] rfl ?_
    exact ih32 (aft nw b, n + 1) ⟨aft_lt hk1, by dsimp only; rw [← hk2, ← hds]; simp only [cbL]; rw [hz]; simp only [Bool.false_eq_true, if_false]; omega⟩ (by dsimp only; omega)
set_option maxRecDepth 100000 in
set_option maxHeartbeats 4000000 in
theorem mX6_differentPassages (l : Launch) (D : va_G) (κ : Nat → ClassId) (Ad : Nat → Nat) (eo : Int32) (ip : Nat → Int32) (v nw aw od sv ot : Nat → Nat) (M : Nat)  (hB : Bd M nw) : mM l yX6_differentPassages wsX6_differentPassages { frames := 1, cells := 0, slots := 0, locals := 21 } D κ Ad [] eo ip v nw aw od sv ot (some (.int (nI (sumL (fun i => sumL (fun b => if 0 < nw (90 + 10 * i + b) then 1 else 0) (nw 1)) (nw 2))))) eo ip (upN v 1 0) nw aw od sv ot := by
  refine zM_of (cc := cX6_differentPassages) (maxL := 4) (rt := (some .int)) [(0, .ref (Ad 0))] (by decide +kernel) rfl (Nat.le_of_ble_eq_true rfl) rfl ?_
  intro p e s m args below meth c A C hr hk hnm
  have C : zC p s m args c cX6_differentPassages 4 wsX6_differentPassages RX6 D (zTy κ) A := C
  have hin : ∀ w ∈ wsX60, w ∈ wsX6_differentPassages := fun w h => List.mem_cons_of_mem _ (List.mem_append_right _ h)
  have k13 : Cond.fieldLink RX6 13 "PeatRailwayModel" "now" "[I" ∈ wsX6_differentPassages := by decide +kernel
  obtain ⟨hM1, hM2, ht0, hnb, hnt, hj, hp⟩ := id hB
  refine z_iconst (v := nI 0) C dX6_differentPassages_0 (by decide) ?_
  refine z_istore_n C [(1, .int (nI 0)), (0, .ref (Ad 0))] dX6_differentPassages_1 (by decide) rfl ?_
  refine z_iconst (v := nI 0) C dX6_differentPassages_2 (by decide) ?_
  refine z_istore_n C [(2, .int (nI 0)), (1, .int (nI 0)), (0, .ref (Ad 0))] dX6_differentPassages_3 (by decide) rfl ?_
  refine z_lv [2, 1, 0] rfl ?_
  refine z_loop (σ := Nat × Nat) (fun x => MW κ Ad eo ip v nw aw od sv ot) (fun x => [(0, .ref (Ad 0)), (1, .int (nI x.2)), (2, .int (nI x.1))]) (fun x => x.1 ≤ nw 2 ∧ x.2 = sumL (fun i => sumL (fun b => if 0 < nw (90 + 10 * i + b) then 1 else 0) (nw 1)) x.1) (fun x => nw 2 - x.1) ((0, 0)) (⟨Nat.zero_le _, rfl⟩) rfl rfl ?_
  rintro ⟨k, E⟩ hI4 ih4
  dsimp only at hI4 ih4 ⊢
  obtain ⟨hk1, hk2⟩ := hI4
  refine z_iload_n C dX6_differentPassages_4 2 rfl ?_
  refine z_aload_n C dX6_differentPassages_5 0 rfl ?_
  refine zm_get_now C hin k13 dX6_differentPassages_6 ?_
  refine z_iconst (v := nI 2) C dX6_differentPassages_9 (by decide) ?_
  refine zm_ald_now C (by omega) dX6_differentPassages_10 ?_
  refine zn_icmp_ge C 54 dX6_differentPassages_11 (by decide) (by omega) (by omega) (fun h1 => ?_) (fun h2 => ?_)
  · refine z_aload_n C dX6_differentPassages_54 0 rfl ?_
    refine z_iload_n C dX6_differentPassages_55 1 rfl ?_
    refine zm_call C (mX6_told l D κ Ad _ _ _ _ _ _ _ _ (nI E)) gX6_differentPassages_X6_told rfl rfl rfl hdX6_told ⟨Nat.le_of_ble_eq_true rfl, Nat.le_of_ble_eq_true rfl⟩ rfl (Nat.le_of_ble_eq_true rfl) dX6_differentPassages_56 ⟨Nat.zero_le _, Nat.zero_le _⟩ ?_
    exact z_iret C hr hk () (congrArg (fun x : Nat => some (Value.int (nI x))) (show sumL (fun i => sumL (fun b => if 0 < nw (90 + 10 * i + b) then 1 else 0) (nw 1)) (nw 2) = E by rw [hk2, show nw 2 = k by omega])) trivial (List.Perm.of_eq rfl) dX6_differentPassages_59 (Nat.le_refl _) (Nat.le_refl _)
  · refine z_iconst (v := nI 0) C dX6_differentPassages_14 (by decide) ?_
    refine z_istore_n C [(3, .int (nI 0)), (0, .ref (Ad 0)), (1, .int (nI E)), (2, .int (nI k))] dX6_differentPassages_15 (by decide) rfl ?_
    refine z_lv [1, 2, 3, 0] rfl ?_
    refine z_loop (σ := Nat × Nat) (fun x => MW κ Ad eo ip v nw aw od sv ot) (fun x => [(0, .ref (Ad 0)), (1, .int (nI x.2)), (2, .int (nI k)), (3, .int (nI x.1))]) (fun x => x.1 ≤ nw 1 ∧ x.2 = sumL (fun i => sumL (fun b => if 0 < nw (90 + 10 * i + b) then 1 else 0) (nw 1)) k + sumL (fun i => if 0 < nw (90 + 10 * k + i) then 1 else 0) x.1) (fun x => nw 1 - x.1) ((0, E)) (⟨Nat.zero_le _, by dsimp only; rw [hk2]; rfl⟩) rfl rfl ?_
    rintro ⟨j, E2⟩ hI16 ih16
    dsimp only at hI16 ih16 ⊢
    obtain ⟨hj1, hj2⟩ := hI16
    refine z_iload_n C dX6_differentPassages_16 3 rfl ?_
    refine z_aload_n C dX6_differentPassages_17 0 rfl ?_
    refine zm_get_now C hin k13 dX6_differentPassages_18 ?_
    refine z_iconst (v := nI 1) C dX6_differentPassages_21 (by decide) ?_
    refine zm_ald_now C (by omega) dX6_differentPassages_22 ?_
    refine zn_icmp_ge C 48 dX6_differentPassages_23 (by decide) (by omega) (by omega) (fun h3 => ?_) (fun h4 => ?_)
    · refine zn_iinc (n := 1) C [(2, .int (nI (k + 1))), (0, .ref (Ad 0)), (1, .int (nI E2)), (3, .int (nI j))] dX6_differentPassages_48 2 rfl (by decide) rfl ?_
      refine z_goto (tgt := 4) C dX6_differentPassages_51 (by decide) ?_
      refine z_lv [1, 2, 0] rfl ?_
      exact ih4 (k + 1, E2) ⟨by dsimp only; omega, by dsimp only; rw [hj2]; simp only [sumL]; rw [show nw 1 = j by omega]⟩ (by dsimp only; omega)
    · refine z_aload_n C dX6_differentPassages_26 0 rfl ?_
      refine zm_get_now C hin k13 dX6_differentPassages_27 ?_
      refine z_iload_n C dX6_differentPassages_30 2 rfl ?_
      refine z_iload_n C dX6_differentPassages_31 3 rfl ?_
      refine zs_call C (mX6_passed l D κ k j) gX6_differentPassages_X6_passed rfl rfl rfl hdX6_passed ⟨Nat.le_of_ble_eq_true rfl, Nat.le_of_ble_eq_true rfl⟩ rfl (Nat.le_of_ble_eq_true rfl) dX6_differentPassages_32 ⟨Nat.zero_le _, Nat.zero_le _⟩ ?_
      refine zm_ald_now C (by omega) dX6_differentPassages_35 ?_
      have g5 : nw (90 + 10 * k + j) ≤ M := hB.j (by omega) (by omega)
      refine zn_if_le C 42 dX6_differentPassages_36 (by decide) (by omega) (fun h6 => ?_) (fun h7 => ?_)
      · refine zn_iinc (n := 1) C [(3, .int (nI (j + 1))), (0, .ref (Ad 0)), (1, .int (nI E2)), (2, .int (nI k))] dX6_differentPassages_42 3 rfl (by decide) rfl ?_
        refine z_goto (tgt := 16) C dX6_differentPassages_45 (by decide) ?_
        refine z_lv [1, 2, 3, 0] rfl ?_
        exact ih16 (j + 1, E2) ⟨by dsimp only; omega, by dsimp only; rw [hj2]; simp only [sumL]; rw [if_neg (by omega)]; omega⟩ (by dsimp only; omega)
      · refine zn_iinc (n := 1) C [(1, .int (nI (E2 + 1))), (0, .ref (Ad 0)), (2, .int (nI k)), (3, .int (nI j))] dX6_differentPassages_39 1 rfl (by decide) rfl ?_
        refine zn_iinc (n := 1) C [(3, .int (nI (j + 1))), (1, .int (nI (E2 + 1))), (0, .ref (Ad 0)), (2, .int (nI k))] dX6_differentPassages_42 3 rfl (by decide) rfl ?_
        refine z_goto (tgt := 16) C dX6_differentPassages_45 (by decide) ?_
        refine z_lv [2, 1, 3, 0] rfl ?_
        exact ih16 (j + 1, (E2 + 1)) ⟨by dsimp only; omega, by dsimp only; rw [hj2]; simp only [sumL]; rw [if_pos (by omega)]; omega⟩ (by dsimp only; omega)
theorem hdX6_differentPassages : yX6_differentPassages.cls = RX6 ∧ yX6_differentPassages.cls ≠ "java/lang/invoke/MethodHandle" ∧ yX6_differentPassages.cls ≠ "java/lang/invoke/VarHandle" ∧ (parseMethodDescriptor yX6_differentPassages.desc).map (fun d => d.parameters.length) = some 0 := by decide +kernel
set_option maxRecDepth 100000 in
set_option maxHeartbeats 4000000 in
theorem mX6_sharedBlocks (l : Launch) (D : va_G) (κ : Nat → ClassId) (Ad : Nat → Nat) (eo : Int32) (ip : Nat → Int32) (v nw aw od sv ot : Nat → Nat) (M : Nat)  (hB : Bd M nw) : mM l yX6_sharedBlocks wsX6_sharedBlocks { frames := 1, cells := 0, slots := 0, locals := 21 } D κ Ad [] eo ip v nw aw od sv ot (some (.int (nI (sumL (fun i => sumL (fun b => if nw (65 + 5 * i + 2) = nw (65 + 5 * b + 2) then 1 else 0) i) (nw 2))))) eo ip (upN v 1 0) nw aw od sv ot := by
  refine zM_of (cc := cX6_sharedBlocks) (maxL := 4) (rt := (some .int)) [(0, .ref (Ad 0))] (by decide +kernel) rfl (Nat.le_of_ble_eq_true rfl) rfl ?_
  intro p e s m args below meth c A C hr hk hnm
  have C : zC p s m args c cX6_sharedBlocks 4 wsX6_sharedBlocks RX6 D (zTy κ) A := C
  have hin : ∀ w ∈ wsX60, w ∈ wsX6_sharedBlocks := fun w h => List.mem_cons_of_mem _ (List.mem_append_right _ h)
  have k13 : Cond.fieldLink RX6 13 "PeatRailwayModel" "now" "[I" ∈ wsX6_sharedBlocks := by decide +kernel
  obtain ⟨hM1, hM2, ht0, hnb, hnt, hj, hp⟩ := id hB
  refine z_iconst (v := nI 0) C dX6_sharedBlocks_0 (by decide) ?_
  refine z_istore_n C [(1, .int (nI 0)), (0, .ref (Ad 0))] dX6_sharedBlocks_1 (by decide) rfl ?_
  refine z_iconst (v := nI 0) C dX6_sharedBlocks_2 (by decide) ?_
  refine z_istore_n C [(2, .int (nI 0)), (1, .int (nI 0)), (0, .ref (Ad 0))] dX6_sharedBlocks_3 (by decide) rfl ?_
  refine z_lv [2, 1, 0] rfl ?_
  refine z_loop (σ := Nat × Nat) (fun x => MW κ Ad eo ip v nw aw od sv ot) (fun x => [(0, .ref (Ad 0)), (1, .int (nI x.2)), (2, .int (nI x.1))]) (fun x => x.1 ≤ nw 2 ∧ x.2 = sumL (fun i => sumL (fun b => if nw (65 + 5 * i + 2) = nw (65 + 5 * b + 2) then 1 else 0) i) x.1) (fun x => nw 2 - x.1) ((0, 0)) (⟨Nat.zero_le _, rfl⟩) rfl rfl ?_
  rintro ⟨k, E⟩ hI4 ih4
  dsimp only at hI4 ih4 ⊢
  obtain ⟨hk1, hk2⟩ := hI4
  refine z_iload_n C dX6_sharedBlocks_4 2 rfl ?_
  refine z_aload_n C dX6_sharedBlocks_5 0 rfl ?_
  refine zm_get_now C hin k13 dX6_sharedBlocks_6 ?_
  refine z_iconst (v := nI 2) C dX6_sharedBlocks_9 (by decide) ?_
  refine zm_ald_now C (by omega) dX6_sharedBlocks_10 ?_
  refine zn_icmp_ge C 61 dX6_sharedBlocks_11 (by decide) (by omega) (by omega) (fun h1 => ?_) (fun h2 => ?_)
  · refine z_aload_n C dX6_sharedBlocks_61 0 rfl ?_
    refine z_iload_n C dX6_sharedBlocks_62 1 rfl ?_
    refine zm_call C (mX6_told l D κ Ad _ _ _ _ _ _ _ _ (nI E)) gX6_sharedBlocks_X6_told rfl rfl rfl hdX6_told ⟨Nat.le_of_ble_eq_true rfl, Nat.le_of_ble_eq_true rfl⟩ rfl (Nat.le_of_ble_eq_true rfl) dX6_sharedBlocks_63 ⟨Nat.zero_le _, Nat.zero_le _⟩ ?_
    exact z_iret C hr hk () (congrArg (fun x : Nat => some (Value.int (nI x))) (show sumL (fun i => sumL (fun b => if nw (65 + 5 * i + 2) = nw (65 + 5 * b + 2) then 1 else 0) i) (nw 2) = E by rw [hk2, show nw 2 = k by omega])) trivial (List.Perm.of_eq rfl) dX6_sharedBlocks_66 (Nat.le_refl _) (Nat.le_refl _)
  · refine z_iconst (v := nI 0) C dX6_sharedBlocks_14 (by decide) ?_
    refine z_istore_n C [(3, .int (nI 0)), (0, .ref (Ad 0)), (1, .int (nI E)), (2, .int (nI k))] dX6_sharedBlocks_15 (by decide) rfl ?_
    refine z_lv [1, 2, 3, 0] rfl ?_
    refine z_loop (σ := Nat × Nat) (fun x => MW κ Ad eo ip v nw aw od sv ot) (fun x => [(0, .ref (Ad 0)), (1, .int (nI x.2)), (2, .int (nI k)), (3, .int (nI x.1))]) (fun x => x.1 ≤ k ∧ x.2 = sumL (fun i => sumL (fun b => if nw (65 + 5 * i + 2) = nw (65 + 5 * b + 2) then 1 else 0) i) k + sumL (fun i => if nw (65 + 5 * k + 2) = nw (65 + 5 * i + 2) then 1 else 0) x.1) (fun x => k - x.1) ((0, E)) (⟨Nat.zero_le _, by dsimp only; rw [hk2]; rfl⟩) rfl rfl ?_
    rintro ⟨j, E2⟩ hI16 ih16
    dsimp only at hI16 ih16 ⊢
    obtain ⟨hj1, hj2⟩ := hI16
    refine z_iload_n C dX6_sharedBlocks_16 3 rfl ?_
    refine z_iload_n C dX6_sharedBlocks_17 2 rfl ?_
    refine zn_icmp_ge C 55 dX6_sharedBlocks_18 (by decide) (by omega) (by omega) (fun h3 => ?_) (fun h4 => ?_)
    · refine zn_iinc (n := 1) C [(2, .int (nI (k + 1))), (0, .ref (Ad 0)), (1, .int (nI E2)), (3, .int (nI j))] dX6_sharedBlocks_55 2 rfl (by decide) rfl ?_
      refine z_goto (tgt := 4) C dX6_sharedBlocks_58 (by decide) ?_
      refine z_lv [1, 2, 0] rfl ?_
      exact ih4 (k + 1, E2) ⟨by dsimp only; omega, by dsimp only; rw [hj2]; simp only [sumL]; rw [show k = j by omega]⟩ (by dsimp only; omega)
    · refine z_aload_n C dX6_sharedBlocks_21 0 rfl ?_
      refine zm_get_now C hin k13 dX6_sharedBlocks_22 ?_
      refine z_iload_n C dX6_sharedBlocks_25 2 rfl ?_
      refine zs_call C (mX6_t l D κ k) gX6_sharedBlocks_X6_t rfl rfl rfl hdX6_t ⟨Nat.le_of_ble_eq_true rfl, Nat.le_of_ble_eq_true rfl⟩ rfl (Nat.le_of_ble_eq_true rfl) dX6_sharedBlocks_26 ⟨Nat.zero_le _, Nat.zero_le _⟩ ?_
      refine z_iconst (v := nI 2) C dX6_sharedBlocks_29 (by decide) ?_
      refine zn_iadd C dX6_sharedBlocks_30 ?_
      refine zm_ald_now C (by omega) dX6_sharedBlocks_31 ?_
      have g5 : nw ((65 + 5 * k) + 2) ≤ M := hB.j (by omega) (by omega)
      have q6 : nw ((65 + 5 * k) + 2) < nw 1 := hB.p (t := k) (by omega)
      refine z_aload_n C dX6_sharedBlocks_32 0 rfl ?_
      refine zm_get_now C hin k13 dX6_sharedBlocks_33 ?_
      refine z_iload_n C dX6_sharedBlocks_36 3 rfl ?_
      refine zs_call C (mX6_t l D κ j) gX6_sharedBlocks_X6_t rfl rfl rfl hdX6_t ⟨Nat.le_of_ble_eq_true rfl, Nat.le_of_ble_eq_true rfl⟩ rfl (Nat.le_of_ble_eq_true rfl) dX6_sharedBlocks_37 ⟨Nat.zero_le _, Nat.zero_le _⟩ ?_
      refine z_iconst (v := nI 2) C dX6_sharedBlocks_40 (by decide) ?_
      refine zn_iadd C dX6_sharedBlocks_41 ?_
      refine zm_ald_now C (by omega) dX6_sharedBlocks_42 ?_
      have g7 : nw ((65 + 5 * j) + 2) ≤ M := hB.j (by omega) (by omega)
      have q8 : nw ((65 + 5 * j) + 2) < nw 1 := hB.p (t := j) (by omega)
      refine zn_icmp_ne C 49 dX6_sharedBlocks_43 (by decide) (by omega) (by omega) (fun h9 => ?_) (fun h10 => ?_)
      · refine zn_iinc (n := 1) C [(3, .int (nI (j + 1))), (0, .ref (Ad 0)), (1, .int (nI E2)), (2, .int (nI k))] dX6_sharedBlocks_49 3 rfl (by decide) rfl ?_
        refine z_goto (tgt := 16) C dX6_sharedBlocks_52 (by decide) ?_
        refine z_lv [1, 2, 3, 0] rfl ?_
        exact ih16 (j + 1, E2) ⟨by dsimp only; omega, by dsimp only; rw [hj2]; simp only [sumL]; rw [if_neg (by omega)]; omega⟩ (by dsimp only; omega)
      · refine zn_iinc (n := 1) C [(1, .int (nI (E2 + 1))), (0, .ref (Ad 0)), (2, .int (nI k)), (3, .int (nI j))] dX6_sharedBlocks_46 1 rfl (by decide) rfl ?_
        refine zn_iinc (n := 1) C [(3, .int (nI (j + 1))), (1, .int (nI (E2 + 1))), (0, .ref (Ad 0)), (2, .int (nI k))] dX6_sharedBlocks_49 3 rfl (by decide) rfl ?_
        refine z_goto (tgt := 16) C dX6_sharedBlocks_52 (by decide) ?_
        refine z_lv [2, 1, 3, 0] rfl ?_
        exact ih16 (j + 1, (E2 + 1)) ⟨by dsimp only; omega, by dsimp only; rw [hj2]; simp only [sumL]; rw [if_pos (by omega)]; omega⟩ (by dsimp only; omega)
theorem hdX6_sharedBlocks : yX6_sharedBlocks.cls = RX6 ∧ yX6_sharedBlocks.cls ≠ "java/lang/invoke/MethodHandle" ∧ yX6_sharedBlocks.cls ≠ "java/lang/invoke/VarHandle" ∧ (parseMethodDescriptor yX6_sharedBlocks.desc).map (fun d => d.parameters.length) = some 0 := by decide +kernel
set_option maxRecDepth 100000 in
set_option maxHeartbeats 4000000 in
theorem mX6_without (l : Launch) (D : va_G) (κ : Nat → ClassId) (x : Int32)  : sM l yX6_without wsX6_without { frames := 0, cells := 0, slots := 0, locals := 0 } D κ [.int (x)] (some (.int (abI x))) := by
  refine zM_of (cc := cX6_without) (maxL := 1) (rt := (some .int)) [(0, .int (x))] (by decide +kernel) rfl (Nat.le_of_ble_eq_true rfl) rfl ?_
  intro p e s m args below meth c A C hr hk hnm
  have C : zC p s m args c cX6_without 1 wsX6_without RX6 D (zTy κ) A := C
  refine z_iload_n C dX6_without_0 0 rfl ?_
  refine z_if_ge C 9 dX6_without_1 (by decide) (fun h1 => ?_) (fun h2 => ?_)
  · refine z_iload_n C dX6_without_9 0 rfl ?_
    exact z_iret C hr hk () (congrArg (fun y => some (Value.int y)) (abI_pos x h1)) trivial (List.Perm.of_eq rfl) dX6_without_10 (Nat.le_refl _) (Nat.le_refl _)
  · refine z_iload_n C dX6_without_4 0 rfl ?_
    refine z_ineg C dX6_without_5 ?_
    refine z_goto (tgt := 10) C dX6_without_6 (by decide) ?_
    exact z_iret C hr hk () (congrArg (fun y => some (Value.int y)) (abI_neg x h2)) trivial (List.Perm.of_eq rfl) dX6_without_10 (Nat.le_refl _) (Nat.le_refl _)
theorem hdX6_without : yX6_without.cls ≠ "java/lang/invoke/MethodHandle" ∧ yX6_without.cls ≠ "java/lang/invoke/VarHandle" ∧ (parseMethodDescriptor yX6_without.desc).map (fun d => d.parameters.length) = some 1 := by decide +kernel
set_option maxRecDepth 100000 in
set_option maxHeartbeats 4000000 in
theorem mX6_wagonDifference (l : Launch) (D : va_G) (κ : Nat → ClassId) (Ad : Nat → Nat) (eo : Int32) (ip : Nat → Int32) (v nw aw od sv ot : Nat → Nat) (M : Nat)  (hB : Bd M nw) : mM l yX6_wagonDifference wsX6_wagonDifference { frames := 2, cells := 0, slots := 0, locals := 43 } D κ Ad [] eo ip v nw aw od sv ot (some (.int (abI (nI (sumL (fun k => nw (65 + 5 * k + 0)) (nw 2) + sumL (fun k => nw (5 + 6 * k + 5)) (nw 1) + nw 3) - nI (nw 4))))) eo ip (upN v 1 0) nw aw od sv ot := by
  refine zM_of (cc := cX6_wagonDifference) (maxL := 1) (rt := (some .int)) [(0, .ref (Ad 0))] (by decide +kernel) rfl (Nat.le_of_ble_eq_true rfl) rfl ?_
  intro p e s m args below meth c A C hr hk hnm
  have C : zC p s m args c cX6_wagonDifference 1 wsX6_wagonDifference RX6 D (zTy κ) A := C
  have hin : ∀ w ∈ wsX60, w ∈ wsX6_wagonDifference := fun w h => List.mem_cons_of_mem _ (List.mem_append_right _ h)
  have k13 : Cond.fieldLink RX6 13 "PeatRailwayModel" "now" "[I" ∈ wsX6_wagonDifference := by decide +kernel
  obtain ⟨hM1, hM2, ht0, hnb, hnt, hj, hp⟩ := id hB
  refine z_aload_n C dX6_wagonDifference_0 0 rfl ?_
  refine z_aload_n C dX6_wagonDifference_1 0 rfl ?_
  refine z_iconst (v := nI 0) C dX6_wagonDifference_2 (by decide) ?_
  refine zm_call C (mX6_ofAllTrains l D κ Ad _ _ _ _ _ _ _ _ M 0 hB (by decide)) gX6_wagonDifference_X6_ofAllTrains rfl rfl rfl hdX6_ofAllTrains ⟨Nat.le_of_ble_eq_true rfl, Nat.le_of_ble_eq_true rfl⟩ rfl (Nat.le_of_ble_eq_true rfl) dX6_wagonDifference_3 ⟨Nat.zero_le _, Nat.zero_le _⟩ ?_
  refine z_aload_n C dX6_wagonDifference_6 0 rfl ?_
  refine z_iconst (v := nI 5) C dX6_wagonDifference_7 (by decide) ?_
  refine zm_call C (mX6_ofAllBlocks l D κ Ad _ _ _ _ _ _ _ _ M 5 hB (by decide)) gX6_wagonDifference_X6_ofAllBlocks rfl rfl rfl hdX6_ofAllBlocks ⟨Nat.le_of_ble_eq_true rfl, Nat.le_of_ble_eq_true rfl⟩ rfl (Nat.le_of_ble_eq_true rfl) dX6_wagonDifference_8 ⟨Nat.zero_le _, Nat.zero_le _⟩ ?_
  refine zn_iadd C dX6_wagonDifference_11 ?_
  refine z_aload_n C dX6_wagonDifference_12 0 rfl ?_
  refine zm_get_now C hin k13 dX6_wagonDifference_13 ?_
  refine z_iconst (v := nI 3) C dX6_wagonDifference_16 (by decide) ?_
  refine zm_ald_now C (by omega) dX6_wagonDifference_17 ?_
  refine zn_iadd C dX6_wagonDifference_18 ?_
  refine z_aload_n C dX6_wagonDifference_19 0 rfl ?_
  refine zm_get_now C hin k13 dX6_wagonDifference_20 ?_
  refine z_iconst (v := nI 4) C dX6_wagonDifference_23 (by decide) ?_
  refine zm_ald_now C (by omega) dX6_wagonDifference_24 ?_
  refine z_isub C dX6_wagonDifference_25 ?_
  refine zs_call C (mX6_without l D κ ((nI (((sumL (fun i9 => nw (65 + 5 * i9 + 0)) (nw 2)) + (sumL (fun i9 => nw (5 + 6 * i9 + 5)) (nw 1))) + (nw 3)) - nI (nw 4)))) gX6_wagonDifference_X6_without rfl rfl rfl hdX6_without ⟨Nat.le_of_ble_eq_true rfl, Nat.le_of_ble_eq_true rfl⟩ rfl (Nat.le_of_ble_eq_true rfl) dX6_wagonDifference_26 ⟨Nat.zero_le _, Nat.zero_le _⟩ ?_
  refine zm_call C (mX6_told l D κ Ad _ _ _ _ _ _ _ _ ((abI ((nI (((sumL (fun i9 => nw (65 + 5 * i9 + 0)) (nw 2)) + (sumL (fun i9 => nw (5 + 6 * i9 + 5)) (nw 1))) + (nw 3)) - nI (nw 4)))))) gX6_wagonDifference_X6_told rfl rfl rfl hdX6_told ⟨Nat.le_of_ble_eq_true rfl, Nat.le_of_ble_eq_true rfl⟩ rfl (Nat.le_of_ble_eq_true rfl) dX6_wagonDifference_29 ⟨Nat.zero_le _, Nat.zero_le _⟩ ?_
  exact z_iret C hr hk () (rfl) trivial (List.Perm.of_eq rfl) dX6_wagonDifference_32 (Nat.le_refl _) (Nat.le_refl _)
theorem hdX6_wagonDifference : yX6_wagonDifference.cls = RX6 ∧ yX6_wagonDifference.cls ≠ "java/lang/invoke/MethodHandle" ∧ yX6_wagonDifference.cls ≠ "java/lang/invoke/VarHandle" ∧ (parseMethodDescriptor yX6_wagonDifference.desc).map (fun d => d.parameters.length) = some 0 := by decide +kernel
set_option maxRecDepth 100000 in
set_option maxHeartbeats 4000000 in
theorem mX6_blockAfter_no (l : Launch) (D : va_G) (κ : Nat → ClassId) (Ad : Nat → Nat) (eo : Int32) (ip : Nat → Int32) (v nw aw od sv ot : Nat → Nat) (M : Nat) (x : Int32) (y : Int32) (hB : Bd M nw) (hx : isB (nw 2) x = false) : mM l yX6_blockAfter wsX6_blockAfter { frames := 7, cells := 0, slots := 0, locals := 154 } D κ Ad [.int (x), .int (y)] eo ip v nw aw od sv ot (some (.int (nI 0))) eo ip (upN v 1 1) nw aw od sv ot := by
  refine zM_of (cc := cX6_blockAfter) (maxL := 5) (rt := (some .int)) [(0, .ref (Ad 0)), (1, .int (x)), (2, .int (y))] (by decide +kernel) rfl (Nat.le_of_ble_eq_true rfl) rfl ?_
  intro p e s m args below meth c A C hr hk hnm
  have C : zC p s m args c cX6_blockAfter 5 wsX6_blockAfter RX6 D (zTy κ) A := C
  have hin : ∀ w ∈ wsX60, w ∈ wsX6_blockAfter := fun w h => List.mem_cons_of_mem _ (List.mem_append_right _ h)
  have k13 : Cond.fieldLink RX6 13 "PeatRailwayModel" "now" "[I" ∈ wsX6_blockAfter := by decide +kernel
  obtain ⟨hM1, hM2, ht0, hnb, hnt, hj, hp⟩ := id hB
  refine z_aload_n C dX6_blockAfter_0 0 rfl ?_
  refine z_iload_n C dX6_blockAfter_1 1 rfl ?_
  refine zm_call C (mX6_isTrain_no l D κ Ad _ _ _ _ _ _ _ _ M x hB hx) gX6_blockAfter_X6_isTrain rfl rfl rfl hdX6_isTrain ⟨Nat.le_of_ble_eq_true rfl, Nat.le_of_ble_eq_true rfl⟩ rfl (Nat.le_of_ble_eq_true rfl) dX6_blockAfter_2 ⟨Nat.zero_le _, Nat.zero_le _⟩ ?_
  refine zb_if_ne C 14 dX6_blockAfter_5 (by decide) (fun q => absurd q (by decide)) (fun _ => ?_)
  refine z_aload_n C dX6_blockAfter_8 0 rfl ?_
  refine z_iconst (v := nI 1) C dX6_blockAfter_9 (by decide) ?_
  refine zm_call C (mX6_refuse l D κ Ad _ _ _ _ _ _ _ _ 1) gX6_blockAfter_X6_refuse rfl rfl rfl hdX6_refuse ⟨Nat.le_of_ble_eq_true rfl, Nat.le_of_ble_eq_true rfl⟩ rfl (Nat.le_of_ble_eq_true rfl) dX6_blockAfter_10 ⟨Nat.zero_le _, Nat.zero_le _⟩ ?_
  exact z_iret C hr hk () (rfl) trivial (List.Perm.of_eq rfl) dX6_blockAfter_13 (Nat.le_refl _) (Nat.le_refl _)
theorem hdX6_blockAfter : yX6_blockAfter.cls = RX6 ∧ yX6_blockAfter.cls ≠ "java/lang/invoke/MethodHandle" ∧ yX6_blockAfter.cls ≠ "java/lang/invoke/VarHandle" ∧ (parseMethodDescriptor yX6_blockAfter.desc).map (fun d => d.parameters.length) = some 2 := by decide +kernel
set_option maxRecDepth 100000 in
set_option maxHeartbeats 4000000 in
theorem mX6_blockAfter_rng (l : Launch) (D : va_G) (κ : Nat → ClassId) (Ad : Nat → Nat) (eo : Int32) (ip : Nat → Int32) (v nw aw od sv ot : Nat → Nat) (M : Nat) (t : Nat) (x : Int32) (hB : Bd M nw) (hk0 : t < nw 2) (hx : inI x (nI 0) (nI 200) = false) : mM l yX6_blockAfter wsX6_blockAfter { frames := 7, cells := 0, slots := 0, locals := 154 } D κ Ad [.int (nI t), .int (x)] eo ip v nw aw od sv ot (some (.int (nI 0))) eo ip (upN v 1 2) nw aw od sv ot := by
  refine zM_of (cc := cX6_blockAfter) (maxL := 5) (rt := (some .int)) [(0, .ref (Ad 0)), (1, .int (nI t)), (2, .int (x))] (by decide +kernel) rfl (Nat.le_of_ble_eq_true rfl) rfl ?_
  intro p e s m args below meth c A C hr hk hnm
  have C : zC p s m args c cX6_blockAfter 5 wsX6_blockAfter RX6 D (zTy κ) A := C
  have hin : ∀ w ∈ wsX60, w ∈ wsX6_blockAfter := fun w h => List.mem_cons_of_mem _ (List.mem_append_right _ h)
  have k13 : Cond.fieldLink RX6 13 "PeatRailwayModel" "now" "[I" ∈ wsX6_blockAfter := by decide +kernel
  obtain ⟨hM1, hM2, ht0, hnb, hnt, hj, hp⟩ := id hB
  refine z_aload_n C dX6_blockAfter_0 0 rfl ?_
  refine z_iload_n C dX6_blockAfter_1 1 rfl ?_
  refine zm_call C (mX6_isTrain_k l D κ Ad _ _ _ _ _ _ _ _ M t hB (by omega)) gX6_blockAfter_X6_isTrain rfl rfl rfl hdX6_isTrain ⟨Nat.le_of_ble_eq_true rfl, Nat.le_of_ble_eq_true rfl⟩ rfl (Nat.le_of_ble_eq_true rfl) dX6_blockAfter_2 ⟨Nat.zero_le _, Nat.zero_le _⟩ ?_
  refine zb_if_ne C 14 dX6_blockAfter_5 (by decide) (fun _ => ?_) (fun q => absurd q (by decide))
  refine z_iload_n C dX6_blockAfter_14 2 rfl ?_
  refine z_iconst (v := nI 0) C dX6_blockAfter_15 (by decide) ?_
  refine z_sipush (v := nI 200) C dX6_blockAfter_16 (by decide) ?_
  refine zs_call C (mX6_in_no l D κ (x) (nI 0) (nI 200) hx) gX6_blockAfter_X6_in rfl rfl rfl hdX6_in ⟨Nat.le_of_ble_eq_true rfl, Nat.le_of_ble_eq_true rfl⟩ rfl (Nat.le_of_ble_eq_true rfl) dX6_blockAfter_19 ⟨Nat.zero_le _, Nat.zero_le _⟩ ?_
  refine zb_if_ne C 31 dX6_blockAfter_22 (by decide) (fun q => absurd q (by decide)) (fun _ => ?_)
  refine z_aload_n C dX6_blockAfter_25 0 rfl ?_
  refine z_iconst (v := nI 2) C dX6_blockAfter_26 (by decide) ?_
  refine zm_call C (mX6_refuse l D κ Ad _ _ _ _ _ _ _ _ 2) gX6_blockAfter_X6_refuse rfl rfl rfl hdX6_refuse ⟨Nat.le_of_ble_eq_true rfl, Nat.le_of_ble_eq_true rfl⟩ rfl (Nat.le_of_ble_eq_true rfl) dX6_blockAfter_27 ⟨Nat.zero_le _, Nat.zero_le _⟩ ?_
  exact z_iret C hr hk () (rfl) trivial (List.Perm.of_eq rfl) dX6_blockAfter_30 (Nat.le_refl _) (Nat.le_refl _)
set_option maxRecDepth 100000 in
set_option maxHeartbeats 4000000 in
theorem mX6_blockAfter_ok (l : Launch) (D : va_G) (κ : Nat → ClassId) (Ad : Nat → Nat) (eo : Int32) (ip : Nat → Int32) (v nw aw od sv ot : Nat → Nat) (M : Nat) (t n : Nat) (hB : Bd M nw) (hk0 : t < nw 2) (hn : n ≤ 200) (hM3 : M + 11 * n < 1073741824) : mM l yX6_blockAfter wsX6_blockAfter { frames := 7, cells := 0, slots := 0, locals := 154 } D κ Ad [.int (nI t), .int (nI n)] eo ip v nw aw od sv ot (some (.int (nI (psS n nw (65 + 5 * t + 2))))) eo ip (upN v 1 0) nw nw od sv ot := by
  refine zM_of (cc := cX6_blockAfter) (maxL := 5) (rt := (some .int)) [(0, .ref (Ad 0)), (1, .int (nI t)), (2, .int (nI n))] (by decide +kernel) rfl (Nat.le_of_ble_eq_true rfl) rfl ?_
  intro p e s m args below meth c A C hr hk hnm
  have C : zC p s m args c cX6_blockAfter 5 wsX6_blockAfter RX6 D (zTy κ) A := C
  have hin : ∀ w ∈ wsX60, w ∈ wsX6_blockAfter := fun w h => List.mem_cons_of_mem _ (List.mem_append_right _ h)
  have k13 : Cond.fieldLink RX6 13 "PeatRailwayModel" "now" "[I" ∈ wsX6_blockAfter := by decide +kernel
  obtain ⟨hM1, hM2, ht0, hnb, hnt, hj, hp⟩ := id hB
  refine z_aload_n C dX6_blockAfter_0 0 rfl ?_
  refine z_iload_n C dX6_blockAfter_1 1 rfl ?_
  refine zm_call C (mX6_isTrain_k l D κ Ad _ _ _ _ _ _ _ _ M t hB (by omega)) gX6_blockAfter_X6_isTrain rfl rfl rfl hdX6_isTrain ⟨Nat.le_of_ble_eq_true rfl, Nat.le_of_ble_eq_true rfl⟩ rfl (Nat.le_of_ble_eq_true rfl) dX6_blockAfter_2 ⟨Nat.zero_le _, Nat.zero_le _⟩ ?_
  refine zb_if_ne C 14 dX6_blockAfter_5 (by decide) (fun _ => ?_) (fun q => absurd q (by decide))
  refine z_iload_n C dX6_blockAfter_14 2 rfl ?_
  refine z_iconst (v := nI 0) C dX6_blockAfter_15 (by decide) ?_
  refine z_sipush (v := nI 200) C dX6_blockAfter_16 (by decide) ?_
  refine zs_call C (mX6_in_yes l D κ n 0 200 (by omega) (by omega) (by omega)) gX6_blockAfter_X6_in rfl rfl rfl hdX6_in ⟨Nat.le_of_ble_eq_true rfl, Nat.le_of_ble_eq_true rfl⟩ rfl (Nat.le_of_ble_eq_true rfl) dX6_blockAfter_19 ⟨Nat.zero_le _, Nat.zero_le _⟩ ?_
  refine zb_if_ne C 31 dX6_blockAfter_22 (by decide) (fun _ => ?_) (fun q => absurd q (by decide))
  refine z_aload_n C dX6_blockAfter_31 0 rfl ?_
  refine zm_call C (mX6_putsAside l D κ Ad _ _ _ _ _ _ _ _) gX6_blockAfter_X6_putsAside rfl rfl rfl hdX6_putsAside ⟨Nat.le_of_ble_eq_true rfl, Nat.le_of_ble_eq_true rfl⟩ rfl (Nat.le_of_ble_eq_true rfl) dX6_blockAfter_32 ⟨Nat.zero_le _, Nat.zero_le _⟩ ?_
  refine z_aload_n C dX6_blockAfter_35 0 rfl ?_
  refine z_iload_n C dX6_blockAfter_36 2 rfl ?_
  refine zm_call C (mX6_passes l D κ Ad _ _ _ _ _ _ _ _ M n hB (by omega)) gX6_blockAfter_X6_passes rfl rfl rfl hdX6_passes ⟨Nat.le_of_ble_eq_true rfl, Nat.le_of_ble_eq_true rfl⟩ rfl (Nat.le_of_ble_eq_true rfl) dX6_blockAfter_37 ⟨Nat.zero_le _, Nat.zero_le _⟩ ?_
  refine z_istore_n C [(3, .int (nI (psE n nw))), (0, .ref (Ad 0)), (1, .int (nI t)), (2, .int (nI n))] dX6_blockAfter_40 (by decide) rfl ?_
  have hB2 := psS_bd n nw hB hM3
  have e2 : psS n nw 2 = nw 2 := psS_2 n nw
  refine z_aload_n C dX6_blockAfter_41 1 rfl ?_
  refine zm_get_now C hin k13 dX6_blockAfter_42 ?_
  refine z_iload_n C dX6_blockAfter_45 2 rfl ?_
  refine zs_call C (mX6_t l D κ t) gX6_blockAfter_X6_t rfl rfl rfl hdX6_t ⟨Nat.le_of_ble_eq_true rfl, Nat.le_of_ble_eq_true rfl⟩ rfl (Nat.le_of_ble_eq_true rfl) dX6_blockAfter_46 ⟨Nat.zero_le _, Nat.zero_le _⟩ ?_
  refine z_iconst (v := nI 2) C dX6_blockAfter_49 (by decide) ?_
  refine zn_iadd C dX6_blockAfter_50 ?_
  refine zm_ald_now C (by omega) dX6_blockAfter_51 ?_
  have g1 : (psS n nw) ((65 + 5 * t) + 2) ≤ M + 11 * n := hB2.j (by omega) (by omega)
  have q2 : (psS n nw) ((65 + 5 * t) + 2) < (psS n nw) 1 := hB2.p (t := t) (by omega)
  refine z_istore C [(4, .int (nI ((psS n nw) ((65 + 5 * t) + 2)))), (3, .int (nI (psE n nw))), (0, .ref (Ad 0)), (1, .int (nI t)), (2, .int (nI n))] dX6_blockAfter_52 (by decide) rfl ?_
  refine z_aload_n C dX6_blockAfter_54 2 rfl ?_
  refine zm_call C (mX6_putsBack l D κ Ad _ _ _ _ _ _ _ _) gX6_blockAfter_X6_putsBack rfl rfl rfl hdX6_putsBack ⟨Nat.le_of_ble_eq_true rfl, Nat.le_of_ble_eq_true rfl⟩ rfl (Nat.le_of_ble_eq_true rfl) dX6_blockAfter_55 ⟨Nat.zero_le _, Nat.zero_le _⟩ ?_
  refine z_aload_n C dX6_blockAfter_58 2 rfl ?_
  refine z_iload C dX6_blockAfter_59 0 rfl ?_
  refine zm_call C (mX6_told l D κ Ad _ _ _ _ _ _ _ _ (nI ((psS n nw) ((65 + 5 * t) + 2)))) gX6_blockAfter_X6_told rfl rfl rfl hdX6_told ⟨Nat.le_of_ble_eq_true rfl, Nat.le_of_ble_eq_true rfl⟩ rfl (Nat.le_of_ble_eq_true rfl) dX6_blockAfter_61 ⟨Nat.zero_le _, Nat.zero_le _⟩ ?_
  exact z_iret C hr hk () (rfl) trivial (List.Perm.of_eq rfl) dX6_blockAfter_64 (Nat.le_refl _) (Nat.le_refl _)
set_option maxRecDepth 100000 in
set_option maxHeartbeats 4000000 in
theorem mX6_ticksUntilWait_no (l : Launch) (D : va_G) (κ : Nat → ClassId) (Ad : Nat → Nat) (eo : Int32) (ip : Nat → Int32) (v nw aw od sv ot : Nat → Nat) (M : Nat) (x : Int32)  (hB : Bd M nw) (hx : isB (nw 2) x = false) : mM l yX6_ticksUntilWait wsX6_ticksUntilWait { frames := 6, cells := 0, slots := 0, locals := 131 } D κ Ad [.int (x)] eo ip v nw aw od sv ot (some (.int (nI 0))) eo ip (upN v 1 1) nw aw od sv ot := by
  refine zM_of (cc := cX6_ticksUntilWait) (maxL := 5) (rt := (some .int)) [(0, .ref (Ad 0)), (1, .int (x))] (by decide +kernel) rfl (Nat.le_of_ble_eq_true rfl) rfl ?_
  intro p e s m args below meth c A C hr hk hnm
  have C : zC p s m args c cX6_ticksUntilWait 5 wsX6_ticksUntilWait RX6 D (zTy κ) A := C
  have hin : ∀ w ∈ wsX60, w ∈ wsX6_ticksUntilWait := fun w h => List.mem_cons_of_mem _ (List.mem_append_right _ h)
  have k13 : Cond.fieldLink RX6 13 "PeatRailwayModel" "now" "[I" ∈ wsX6_ticksUntilWait := by decide +kernel
  obtain ⟨hM1, hM2, ht0, hnb, hnt, hj, hp⟩ := id hB
  refine z_aload_n C dX6_ticksUntilWait_0 0 rfl ?_
  refine z_iload_n C dX6_ticksUntilWait_1 1 rfl ?_
  refine zm_call C (mX6_isTrain_no l D κ Ad _ _ _ _ _ _ _ _ M x hB hx) gX6_ticksUntilWait_X6_isTrain rfl rfl rfl hdX6_isTrain ⟨Nat.le_of_ble_eq_true rfl, Nat.le_of_ble_eq_true rfl⟩ rfl (Nat.le_of_ble_eq_true rfl) dX6_ticksUntilWait_2 ⟨Nat.zero_le _, Nat.zero_le _⟩ ?_
  refine zb_if_ne C 14 dX6_ticksUntilWait_5 (by decide) (fun q => absurd q (by decide)) (fun _ => ?_)
  refine z_aload_n C dX6_ticksUntilWait_8 0 rfl ?_
  refine z_iconst (v := nI 1) C dX6_ticksUntilWait_9 (by decide) ?_
  refine zm_call C (mX6_refuse l D κ Ad _ _ _ _ _ _ _ _ 1) gX6_ticksUntilWait_X6_refuse rfl rfl rfl hdX6_refuse ⟨Nat.le_of_ble_eq_true rfl, Nat.le_of_ble_eq_true rfl⟩ rfl (Nat.le_of_ble_eq_true rfl) dX6_ticksUntilWait_10 ⟨Nat.zero_le _, Nat.zero_le _⟩ ?_
  exact z_iret C hr hk () (rfl) trivial (List.Perm.of_eq rfl) dX6_ticksUntilWait_13 (Nat.le_refl _) (Nat.le_refl _)
theorem hdX6_ticksUntilWait : yX6_ticksUntilWait.cls = RX6 ∧ yX6_ticksUntilWait.cls ≠ "java/lang/invoke/MethodHandle" ∧ yX6_ticksUntilWait.cls ≠ "java/lang/invoke/VarHandle" ∧ (parseMethodDescriptor yX6_ticksUntilWait.desc).map (fun d => d.parameters.length) = some 1 := by decide +kernel
set_option maxRecDepth 100000 in
set_option maxHeartbeats 4000000 in
theorem mX6_ticksUntilWait_ok (l : Launch) (D : va_G) (κ : Nat → ClassId) (Ad : Nat → Nat) (eo : Int32) (ip : Nat → Int32) (v nw aw od sv ot : Nat → Nat) (M : Nat) (t : Nat) (hB : Bd M nw) (hk0 : t < nw 2) (hM3 : M + 2300 < 1073741824) : mM l yX6_ticksUntilWait wsX6_ticksUntilWait { frames := 6, cells := 0, slots := 0, locals := 131 } D κ Ad [.int (nI t)] eo ip v nw aw od sv ot (some (.int (tI (wtT nw t)))) eo ip (upN v 1 0) nw nw od sv ot := by
  refine zM_of (cc := cX6_ticksUntilWait) (maxL := 5) (rt := (some .int)) [(0, .ref (Ad 0)), (1, .int (nI t))] (by decide +kernel) rfl (Nat.le_of_ble_eq_true rfl) rfl ?_
  intro p e s m args below meth c A C hr hk hnm
  have C : zC p s m args c cX6_ticksUntilWait 5 wsX6_ticksUntilWait RX6 D (zTy κ) A := C
  have hin : ∀ w ∈ wsX60, w ∈ wsX6_ticksUntilWait := fun w h => List.mem_cons_of_mem _ (List.mem_append_right _ h)
  have k13 : Cond.fieldLink RX6 13 "PeatRailwayModel" "now" "[I" ∈ wsX6_ticksUntilWait := by decide +kernel
  obtain ⟨hM1, hM2, ht0, hnb, hnt, hj, hp⟩ := id hB
  obtain ⟨w0, hw0⟩ : ∃ w0, w0 = nw (65 + 5 * t + 4) := ⟨_, rfl⟩
  have hw1 : w0 ≤ M := by rw [hw0]; exact hB.j (by omega) (by omega)
  refine z_aload_n C dX6_ticksUntilWait_0 0 rfl ?_
  refine z_iload_n C dX6_ticksUntilWait_1 1 rfl ?_
  refine zm_call C (mX6_isTrain_k l D κ Ad _ _ _ _ _ _ _ _ M t hB (by omega)) gX6_ticksUntilWait_X6_isTrain rfl rfl rfl hdX6_isTrain ⟨Nat.le_of_ble_eq_true rfl, Nat.le_of_ble_eq_true rfl⟩ rfl (Nat.le_of_ble_eq_true rfl) dX6_ticksUntilWait_2 ⟨Nat.zero_le _, Nat.zero_le _⟩ ?_
  refine zb_if_ne C 14 dX6_ticksUntilWait_5 (by decide) (fun _ => ?_) (fun q => absurd q (by decide))
  refine z_aload_n C dX6_ticksUntilWait_14 0 rfl ?_
  refine zm_call C (mX6_putsAside l D κ Ad _ _ _ _ _ _ _ _) gX6_ticksUntilWait_X6_putsAside rfl rfl rfl hdX6_putsAside ⟨Nat.le_of_ble_eq_true rfl, Nat.le_of_ble_eq_true rfl⟩ rfl (Nat.le_of_ble_eq_true rfl) dX6_ticksUntilWait_15 ⟨Nat.zero_le _, Nat.zero_le _⟩ ?_
  refine z_aload_n C dX6_ticksUntilWait_18 0 rfl ?_
  refine zm_get_now C hin k13 dX6_ticksUntilWait_19 ?_
  refine z_iload_n C dX6_ticksUntilWait_22 1 rfl ?_
  refine zs_call C (mX6_t l D κ t) gX6_ticksUntilWait_X6_t rfl rfl rfl hdX6_t ⟨Nat.le_of_ble_eq_true rfl, Nat.le_of_ble_eq_true rfl⟩ rfl (Nat.le_of_ble_eq_true rfl) dX6_ticksUntilWait_23 ⟨Nat.zero_le _, Nat.zero_le _⟩ ?_
  refine z_iconst (v := nI 4) C dX6_ticksUntilWait_26 (by decide) ?_
  refine zn_iadd C dX6_ticksUntilWait_27 ?_
  refine zm_ald_now C (by omega) dX6_ticksUntilWait_28 ?_
  have g1 : nw ((65 + 5 * t) + 4) ≤ M := hB.j (by omega) (by omega)
  rw [← hw0]
  refine z_istore_n C [(2, .int (nI w0)), (0, .ref (Ad 0)), (1, .int (nI t))] dX6_ticksUntilWait_29 (by decide) rfl ?_
  refine z_iconst (v := nI 0) C dX6_ticksUntilWait_30 (by decide) ?_
  refine z_istore_n C [(3, .int (nI 0)), (2, .int (nI w0)), (0, .ref (Ad 0)), (1, .int (nI t))] dX6_ticksUntilWait_31 (by decide) rfl ?_
  refine z_lv [2, 3, 1, 0] rfl ?_
  refine z_loop (σ := Nat × (Nat → Nat)) (fun x => MW κ Ad eo ip v x.2 nw od sv ot) (fun x => [(0, .ref (Ad 0)), (1, .int (nI t)), (2, .int (nI w0)), (3, .int (nI x.1))]) (fun x => x.1 ≤ 200 ∧ wtL w0 t (200 - x.1) x.2 x.1 = wtR nw t ∧ Bd (M + 11 * x.1) x.2 ∧ x.2 2 = nw 2) (fun x => 200 - x.1) ((0, nw)) (⟨Nat.zero_le _, show wtL w0 t 200 nw 0 = wtR nw t by rw [wtR, ← hw0], hB, rfl⟩) rfl rfl ?_
  rintro ⟨c9, τ⟩ hI32 ih32
  dsimp only at hI32 ih32 ⊢
  obtain ⟨hk1, hk3, hk4, hk5⟩ := hI32
  refine z_aload_n C dX6_ticksUntilWait_32 0 rfl ?_
  refine zm_get_now C hin k13 dX6_ticksUntilWait_33 ?_
  refine z_iload_n C dX6_ticksUntilWait_36 1 rfl ?_
  refine zs_call C (mX6_t l D κ t) gX6_ticksUntilWait_X6_t rfl rfl rfl hdX6_t ⟨Nat.le_of_ble_eq_true rfl, Nat.le_of_ble_eq_true rfl⟩ rfl (Nat.le_of_ble_eq_true rfl) dX6_ticksUntilWait_37 ⟨Nat.zero_le _, Nat.zero_le _⟩ ?_
  refine z_iconst (v := nI 4) C dX6_ticksUntilWait_40 (by decide) ?_
  refine zn_iadd C dX6_ticksUntilWait_41 ?_
  refine zm_ald_now C (by omega) dX6_ticksUntilWait_42 ?_
  have g2 : τ ((65 + 5 * t) + 4) ≤ M + 11 * c9 := hk4.j (by omega) (by omega)
  refine z_iload_n C dX6_ticksUntilWait_43 2 rfl ?_
  refine zn_icmp_ne C 66 dX6_ticksUntilWait_44 (by decide) (by omega) (by omega) (fun h3 => ?_) (fun h4 => ?_)
  · have hr9 : wtR nw t = (τ, c9) := by
      rw [← hk3]
      rcases Nat.lt_or_ge c9 200 with q | q
      · rw [show 200 - c9 = 200 - (c9 + 1) + 1 by omega]; simp only [wtL]; rw [if_neg (by omega)]
      · rw [show 200 - c9 = 0 by omega]; rfl
    refine z_aload_n C dX6_ticksUntilWait_66 0 rfl ?_
    refine zm_get_now C hin k13 dX6_ticksUntilWait_67 ?_
    refine z_iload_n C dX6_ticksUntilWait_70 1 rfl ?_
    refine zs_call C (mX6_t l D κ t) gX6_ticksUntilWait_X6_t rfl rfl rfl hdX6_t ⟨Nat.le_of_ble_eq_true rfl, Nat.le_of_ble_eq_true rfl⟩ rfl (Nat.le_of_ble_eq_true rfl) dX6_ticksUntilWait_71 ⟨Nat.zero_le _, Nat.zero_le _⟩ ?_
    refine z_iconst (v := nI 4) C dX6_ticksUntilWait_74 (by decide) ?_
    refine zn_iadd C dX6_ticksUntilWait_75 ?_
    refine zm_ald_now C (by omega) dX6_ticksUntilWait_76 ?_
    have g5 : τ ((65 + 5 * t) + 4) ≤ M + 11 * c9 := hk4.j (by omega) (by omega)
    refine z_iload_n C dX6_ticksUntilWait_77 2 rfl ?_
    refine zn_icmp_le C 85 dX6_ticksUntilWait_78 (by decide) (by omega) (by omega) (fun h6 => ?_) (fun h7 => ?_)
    · refine z_iconst (v := nI 0) C dX6_ticksUntilWait_85 (by decide) ?_
      refine z_istore C [(4, .int (nI 0)), (0, .ref (Ad 0)), (1, .int (nI t)), (2, .int (nI w0)), (3, .int (nI c9))] dX6_ticksUntilWait_86 (by decide) rfl ?_
      refine z_aload_n C dX6_ticksUntilWait_88 1 rfl ?_
      refine zm_call C (mX6_putsBack l D κ Ad _ _ _ _ _ _ _ _) gX6_ticksUntilWait_X6_putsBack rfl rfl rfl hdX6_putsBack ⟨Nat.le_of_ble_eq_true rfl, Nat.le_of_ble_eq_true rfl⟩ rfl (Nat.le_of_ble_eq_true rfl) dX6_ticksUntilWait_89 ⟨Nat.zero_le _, Nat.zero_le _⟩ ?_
      refine z_iload C dX6_ticksUntilWait_92 0 rfl ?_
      refine z_if_ne C 103 dX6_ticksUntilWait_94 (by decide) (fun q => absurd (by decide) q) (fun _ => ?_)
      refine z_aload_n C dX6_ticksUntilWait_97 1 rfl ?_
      refine z_iconst (v := (-1)) C dX6_ticksUntilWait_98 (by decide) ?_
      refine zm_call C (mX6_told l D κ Ad _ _ _ _ _ _ _ _ (((-1 : Int32)))) gX6_ticksUntilWait_X6_told rfl rfl rfl hdX6_told ⟨Nat.le_of_ble_eq_true rfl, Nat.le_of_ble_eq_true rfl⟩ rfl (Nat.le_of_ble_eq_true rfl) dX6_ticksUntilWait_99 ⟨Nat.zero_le _, Nat.zero_le _⟩ ?_
      exact z_iret C hr hk () (congrArg (fun x => some (Value.int (tI x))) (show wtT nw t = 0 by simp only [wtT]; rw [hr9]; exact if_neg (by dsimp only; omega))) trivial (List.Perm.of_eq rfl) dX6_ticksUntilWait_102 (Nat.le_refl _) (Nat.le_refl _)
    · refine z_iconst (v := nI 1) C dX6_ticksUntilWait_81 (by decide) ?_
      refine z_goto (tgt := 86) C dX6_ticksUntilWait_82 (by decide) ?_
      refine z_istore C [(4, .int (nI 1)), (0, .ref (Ad 0)), (1, .int (nI t)), (2, .int (nI w0)), (3, .int (nI c9))] dX6_ticksUntilWait_86 (by decide) rfl ?_
      refine z_aload_n C dX6_ticksUntilWait_88 1 rfl ?_
      refine zm_call C (mX6_putsBack l D κ Ad _ _ _ _ _ _ _ _) gX6_ticksUntilWait_X6_putsBack rfl rfl rfl hdX6_putsBack ⟨Nat.le_of_ble_eq_true rfl, Nat.le_of_ble_eq_true rfl⟩ rfl (Nat.le_of_ble_eq_true rfl) dX6_ticksUntilWait_89 ⟨Nat.zero_le _, Nat.zero_le _⟩ ?_
      refine z_iload C dX6_ticksUntilWait_92 0 rfl ?_
      refine z_if_ne C 103 dX6_ticksUntilWait_94 (by decide) (fun _ => ?_) (fun q => absurd q (by decide))
      refine z_aload_n C dX6_ticksUntilWait_103 1 rfl ?_
      refine z_iload_n C dX6_ticksUntilWait_104 4 rfl ?_
      refine zm_call C (mX6_told l D κ Ad _ _ _ _ _ _ _ _ (nI c9)) gX6_ticksUntilWait_X6_told rfl rfl rfl hdX6_told ⟨Nat.le_of_ble_eq_true rfl, Nat.le_of_ble_eq_true rfl⟩ rfl (Nat.le_of_ble_eq_true rfl) dX6_ticksUntilWait_105 ⟨Nat.zero_le _, Nat.zero_le _⟩ ?_
      exact z_iret C hr hk () (congrArg (fun x => some (Value.int (tI x))) (show wtT nw t = c9 + 1 by simp only [wtT]; rw [hr9]; exact if_pos (by dsimp only; omega))) trivial (List.Perm.of_eq rfl) dX6_ticksUntilWait_108 (Nat.le_refl _) (Nat.le_refl _)
  · refine z_iload_n C dX6_ticksUntilWait_47 3 rfl ?_
    refine z_sipush (v := nI 200) C dX6_ticksUntilWait_48 (by decide) ?_
    refine zn_icmp_ge C 66 dX6_ticksUntilWait_51 (by decide) (by omega) (by omega) (fun h8 => ?_) (fun h9 => ?_)
    · have hr9 : wtR nw t = (τ, c9) := by
        rw [← hk3]
        rcases Nat.lt_or_ge c9 200 with q | q
        · rw [show 200 - c9 = 200 - (c9 + 1) + 1 by omega]; simp only [wtL]; rw [if_neg (by omega)]
        · rw [show 200 - c9 = 0 by omega]; rfl
      refine z_aload_n C dX6_ticksUntilWait_66 0 rfl ?_
      refine zm_get_now C hin k13 dX6_ticksUntilWait_67 ?_
      refine z_iload_n C dX6_ticksUntilWait_70 1 rfl ?_
      refine zs_call C (mX6_t l D κ t) gX6_ticksUntilWait_X6_t rfl rfl rfl hdX6_t ⟨Nat.le_of_ble_eq_true rfl, Nat.le_of_ble_eq_true rfl⟩ rfl (Nat.le_of_ble_eq_true rfl) dX6_ticksUntilWait_71 ⟨Nat.zero_le _, Nat.zero_le _⟩ ?_
      refine z_iconst (v := nI 4) C dX6_ticksUntilWait_74 (by decide) ?_
      refine zn_iadd C dX6_ticksUntilWait_75 ?_
      refine zm_ald_now C (by omega) dX6_ticksUntilWait_76 ?_
      have g10 : τ ((65 + 5 * t) + 4) ≤ M + 11 * c9 := hk4.j (by omega) (by omega)
      refine z_iload_n C dX6_ticksUntilWait_77 2 rfl ?_
      refine zn_icmp_le C 85 dX6_ticksUntilWait_78 (by decide) (by omega) (by omega) (fun h11 => ?_) (fun h12 => ?_)
      · refine z_iconst (v := nI 0) C dX6_ticksUntilWait_85 (by decide) ?_
        refine z_istore C [(4, .int (nI 0)), (0, .ref (Ad 0)), (1, .int (nI t)), (2, .int (nI w0)), (3, .int (nI c9))] dX6_ticksUntilWait_86 (by decide) rfl ?_
        refine z_aload_n C dX6_ticksUntilWait_88 1 rfl ?_
        refine zm_call C (mX6_putsBack l D κ Ad _ _ _ _ _ _ _ _) gX6_ticksUntilWait_X6_putsBack rfl rfl rfl hdX6_putsBack ⟨Nat.le_of_ble_eq_true rfl, Nat.le_of_ble_eq_true rfl⟩ rfl (Nat.le_of_ble_eq_true rfl) dX6_ticksUntilWait_89 ⟨Nat.zero_le _, Nat.zero_le _⟩ ?_
        refine z_iload C dX6_ticksUntilWait_92 0 rfl ?_
        refine z_if_ne C 103 dX6_ticksUntilWait_94 (by decide) (fun q => absurd (by decide) q) (fun _ => ?_)
        refine z_aload_n C dX6_ticksUntilWait_97 1 rfl ?_
        refine z_iconst (v := (-1)) C dX6_ticksUntilWait_98 (by decide) ?_
        refine zm_call C (mX6_told l D κ Ad _ _ _ _ _ _ _ _ (((-1 : Int32)))) gX6_ticksUntilWait_X6_told rfl rfl rfl hdX6_told ⟨Nat.le_of_ble_eq_true rfl, Nat.le_of_ble_eq_true rfl⟩ rfl (Nat.le_of_ble_eq_true rfl) dX6_ticksUntilWait_99 ⟨Nat.zero_le _, Nat.zero_le _⟩ ?_
        exact z_iret C hr hk () (congrArg (fun x => some (Value.int (tI x))) (show wtT nw t = 0 by simp only [wtT]; rw [hr9]; exact if_neg (by dsimp only; omega))) trivial (List.Perm.of_eq rfl) dX6_ticksUntilWait_102 (Nat.le_refl _) (Nat.le_refl _)
      · refine z_iconst (v := nI 1) C dX6_ticksUntilWait_81 (by decide) ?_
        refine z_goto (tgt := 86) C dX6_ticksUntilWait_82 (by decide) ?_
        refine z_istore C [(4, .int (nI 1)), (0, .ref (Ad 0)), (1, .int (nI t)), (2, .int (nI w0)), (3, .int (nI c9))] dX6_ticksUntilWait_86 (by decide) rfl ?_
        refine z_aload_n C dX6_ticksUntilWait_88 1 rfl ?_
        refine zm_call C (mX6_putsBack l D κ Ad _ _ _ _ _ _ _ _) gX6_ticksUntilWait_X6_putsBack rfl rfl rfl hdX6_putsBack ⟨Nat.le_of_ble_eq_true rfl, Nat.le_of_ble_eq_true rfl⟩ rfl (Nat.le_of_ble_eq_true rfl) dX6_ticksUntilWait_89 ⟨Nat.zero_le _, Nat.zero_le _⟩ ?_
        refine z_iload C dX6_ticksUntilWait_92 0 rfl ?_
        refine z_if_ne C 103 dX6_ticksUntilWait_94 (by decide) (fun _ => ?_) (fun q => absurd q (by decide))
        refine z_aload_n C dX6_ticksUntilWait_103 1 rfl ?_
        refine z_iload_n C dX6_ticksUntilWait_104 4 rfl ?_
        refine zm_call C (mX6_told l D κ Ad _ _ _ _ _ _ _ _ (nI c9)) gX6_ticksUntilWait_X6_told rfl rfl rfl hdX6_told ⟨Nat.le_of_ble_eq_true rfl, Nat.le_of_ble_eq_true rfl⟩ rfl (Nat.le_of_ble_eq_true rfl) dX6_ticksUntilWait_105 ⟨Nat.zero_le _, Nat.zero_le _⟩ ?_
        exact z_iret C hr hk () (congrArg (fun x => some (Value.int (tI x))) (show wtT nw t = c9 + 1 by simp only [wtT]; rw [hr9]; exact if_pos (by dsimp only; omega))) trivial (List.Perm.of_eq rfl) dX6_ticksUntilWait_108 (Nat.le_refl _) (Nat.le_refl _)
    · have hz : τ (65 + 5 * t + 4) = w0 := by omega
      refine z_aload_n C dX6_ticksUntilWait_54 0 rfl ?_
      refine zm_call C (mX6_passesTick l D κ Ad _ _ _ _ _ _ _ _ (M + 11 * c9) hk4 (by omega)) gX6_ticksUntilWait_X6_passesTick rfl rfl rfl hdX6_passesTick ⟨Nat.le_of_ble_eq_true rfl, Nat.le_of_ble_eq_true rfl⟩ rfl (Nat.le_of_ble_eq_true rfl) dX6_ticksUntilWait_55 ⟨Nat.zero_le _, Nat.zero_le _⟩ ?_
      refine z_istore C [(4, .int (nI (tkE τ))), (0, .ref (Ad 0)), (1, .int (nI t)), (2, .int (nI w0)), (3, .int (nI c9))] dX6_ticksUntilWait_58 (by decide) rfl ?_
      refine zn_iinc (n := 1) C [(3, .int (nI (c9 + 1))), (4, .int (nI (tkE τ))), (0, .ref (Ad 0)), (1, .int (nI t)), (2, .int (nI w0))] dX6_ticksUntilWait_60 4 rfl (by decide) rfl ?_
      refine z_goto (tgt := 32) C dX6_ticksUntilWait_63 (by decide) ?_
      refine z_lv [2, 3, 4, 0] rfl ?_
      exact ih32 (c9 + 1, tkS τ) ⟨by dsimp only; omega, by dsimp only; rw [← hk3, show 200 - c9 = 200 - (c9 + 1) + 1 by omega]; simp only [wtL]; rw [if_pos hz], tkS_bd (M := M + 11 * c9) hk4 (by omega), by rw [← hk5]; exact tkS_2 τ⟩ (by dsimp only; omega)
end M7
