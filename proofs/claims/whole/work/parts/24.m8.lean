section M8
set_option maxRecDepth 100000 in
set_option maxHeartbeats 4000000 in
theorem mX6_advance_no (l : Launch) (D : va_G) (κ : Nat → ClassId) (Ad : Nat → Nat) (eo : Int32) (ip : Nat → Int32) (v nw aw od sv ot : Nat → Nat) (M : Nat) (x : Int32) (hB : Bd M nw) (hx : inI x (nI 1) (nI 99) = false) : mM l yX6_advance wsX6_advance { frames := 7, cells := 0, slots := 0, locals := 154 } D κ Ad [.int (x)] eo ip v nw aw od sv ot (some (.int (nI 0))) eo ip (upN v 1 1) nw aw od sv ot := by
  refine zM_of (cc := cX6_advance) (maxL := 2) (rt := (some .int)) [(0, .ref (Ad 0)), (1, .int (x))] (by decide +kernel) rfl (Nat.le_of_ble_eq_true rfl) rfl ?_
  intro p e s m args below meth c A C hr hk hnm
  have C : zC p s m args c cX6_advance 2 wsX6_advance RX6 D (zTy κ) A := C
  have hin : ∀ w ∈ wsX60, w ∈ wsX6_advance := fun w h => List.mem_cons_of_mem _ (List.mem_append_right _ h)
  have k13 : Cond.fieldLink RX6 13 "PeatRailwayModel" "now" "[I" ∈ wsX6_advance := by decide +kernel
  obtain ⟨hM1, hM2, ht0, hnb, hnt, hj, hp⟩ := id hB
  refine z_iload_n C dX6_advance_0 1 rfl ?_
  refine z_iconst (v := nI 1) C dX6_advance_1 (by decide) ?_
  refine z_bipush (v := nI 99) C dX6_advance_2 (by decide) ?_
  refine zs_call C (mX6_in_no l D κ (x) (nI 1) (nI 99) hx) gX6_advance_X6_in rfl rfl rfl hdX6_in ⟨Nat.le_of_ble_eq_true rfl, Nat.le_of_ble_eq_true rfl⟩ rfl (Nat.le_of_ble_eq_true rfl) dX6_advance_4 ⟨Nat.zero_le _, Nat.zero_le _⟩ ?_
  refine zb_if_ne C 16 dX6_advance_7 (by decide) (fun q => absurd q (by decide)) (fun _ => ?_)
  refine z_aload_n C dX6_advance_10 0 rfl ?_
  refine z_iconst (v := nI 1) C dX6_advance_11 (by decide) ?_
  refine zm_call C (mX6_refuse l D κ Ad _ _ _ _ _ _ _ _ 1) gX6_advance_X6_refuse rfl rfl rfl hdX6_refuse ⟨Nat.le_of_ble_eq_true rfl, Nat.le_of_ble_eq_true rfl⟩ rfl (Nat.le_of_ble_eq_true rfl) dX6_advance_12 ⟨Nat.zero_le _, Nat.zero_le _⟩ ?_
  exact z_iret C hr hk () (rfl) trivial (List.Perm.of_eq rfl) dX6_advance_15 (Nat.le_refl _) (Nat.le_refl _)
theorem hdX6_advance : yX6_advance.cls = RX6 ∧ yX6_advance.cls ≠ "java/lang/invoke/MethodHandle" ∧ yX6_advance.cls ≠ "java/lang/invoke/VarHandle" ∧ (parseMethodDescriptor yX6_advance.desc).map (fun d => d.parameters.length) = some 1 := by decide +kernel
set_option maxRecDepth 100000 in
set_option maxHeartbeats 4000000 in
theorem mX6_advance_lim (l : Launch) (D : va_G) (κ : Nat → ClassId) (Ad : Nat → Nat) (eo : Int32) (ip : Nat → Int32) (v nw aw od sv ot : Nat → Nat) (M : Nat) (n : Nat) (hB : Bd M nw) (h1n : 1 ≤ n) (h2n : n ≤ 99) (hl : 9999 < nw 0 + n) : mM l yX6_advance wsX6_advance { frames := 7, cells := 0, slots := 0, locals := 154 } D κ Ad [.int (nI n)] eo ip v nw aw od sv ot (some (.int (nI 0))) eo ip (upN v 1 2) nw aw od sv ot := by
  refine zM_of (cc := cX6_advance) (maxL := 2) (rt := (some .int)) [(0, .ref (Ad 0)), (1, .int (nI n))] (by decide +kernel) rfl (Nat.le_of_ble_eq_true rfl) rfl ?_
  intro p e s m args below meth c A C hr hk hnm
  have C : zC p s m args c cX6_advance 2 wsX6_advance RX6 D (zTy κ) A := C
  have hin : ∀ w ∈ wsX60, w ∈ wsX6_advance := fun w h => List.mem_cons_of_mem _ (List.mem_append_right _ h)
  have k13 : Cond.fieldLink RX6 13 "PeatRailwayModel" "now" "[I" ∈ wsX6_advance := by decide +kernel
  obtain ⟨hM1, hM2, ht0, hnb, hnt, hj, hp⟩ := id hB
  refine z_iload_n C dX6_advance_0 1 rfl ?_
  refine z_iconst (v := nI 1) C dX6_advance_1 (by decide) ?_
  refine z_bipush (v := nI 99) C dX6_advance_2 (by decide) ?_
  refine zs_call C (mX6_in_yes l D κ n 1 99 (by omega) (by omega) (by omega)) gX6_advance_X6_in rfl rfl rfl hdX6_in ⟨Nat.le_of_ble_eq_true rfl, Nat.le_of_ble_eq_true rfl⟩ rfl (Nat.le_of_ble_eq_true rfl) dX6_advance_4 ⟨Nat.zero_le _, Nat.zero_le _⟩ ?_
  refine zb_if_ne C 16 dX6_advance_7 (by decide) (fun _ => ?_) (fun q => absurd q (by decide))
  refine z_aload_n C dX6_advance_16 0 rfl ?_
  refine zm_get_now C hin k13 dX6_advance_17 ?_
  refine z_iconst (v := nI 0) C dX6_advance_20 (by decide) ?_
  refine zm_ald_now C (by omega) dX6_advance_21 ?_
  refine z_iload_n C dX6_advance_22 1 rfl ?_
  refine zn_iadd C dX6_advance_23 ?_
  refine z_sipush (v := nI 9999) C dX6_advance_24 (by decide) ?_
  refine zn_icmp_le C 36 dX6_advance_27 (by decide) (by omega) (by omega) (fun h1 => ?_) (fun h2 => ?_)
  · exact absurd hl (by omega)
  · refine z_aload_n C dX6_advance_30 0 rfl ?_
    refine z_iconst (v := nI 2) C dX6_advance_31 (by decide) ?_
    refine zm_call C (mX6_refuse l D κ Ad _ _ _ _ _ _ _ _ 2) gX6_advance_X6_refuse rfl rfl rfl hdX6_refuse ⟨Nat.le_of_ble_eq_true rfl, Nat.le_of_ble_eq_true rfl⟩ rfl (Nat.le_of_ble_eq_true rfl) dX6_advance_32 ⟨Nat.zero_le _, Nat.zero_le _⟩ ?_
    exact z_iret C hr hk () (rfl) trivial (List.Perm.of_eq rfl) dX6_advance_35 (Nat.le_refl _) (Nat.le_refl _)
set_option maxRecDepth 100000 in
set_option maxHeartbeats 4000000 in
theorem mX6_advance_ok (l : Launch) (D : va_G) (κ : Nat → ClassId) (Ad : Nat → Nat) (eo : Int32) (ip : Nat → Int32) (v nw aw od sv ot : Nat → Nat) (M : Nat) (h : Nat → Nat → Nat) (n : Nat) (hB : Bd M nw) (hv2 : v 5 ≤ 10) (h1n : 1 ≤ n) (h2n : n ≤ 99) (hl : nw 0 + n ≤ 9999) (hM3 : M + 11 * n < 1073741824) : mM l yX6_advance wsX6_advance { frames := 7, cells := 0, slots := 0, locals := 154 } D κ Ad [.int (nI n)] eo ip v nw aw (hiF h) sv ot (some (.int (nI (psE n nw)))) eo ip (upN (upN v 5 (rmN (v 5))) 1 0) (psS n nw) aw (hiF (rmH h (v 5) nw)) sv ot := by
  refine zM_of (cc := cX6_advance) (maxL := 2) (rt := (some .int)) [(0, .ref (Ad 0)), (1, .int (nI n))] (by decide +kernel) rfl (Nat.le_of_ble_eq_true rfl) rfl ?_
  intro p e s m args below meth c A C hr hk hnm
  have C : zC p s m args c cX6_advance 2 wsX6_advance RX6 D (zTy κ) A := C
  have hin : ∀ w ∈ wsX60, w ∈ wsX6_advance := fun w h => List.mem_cons_of_mem _ (List.mem_append_right _ h)
  have k13 : Cond.fieldLink RX6 13 "PeatRailwayModel" "now" "[I" ∈ wsX6_advance := by decide +kernel
  obtain ⟨hM1, hM2, ht0, hnb, hnt, hj, hp⟩ := id hB
  refine z_iload_n C dX6_advance_0 1 rfl ?_
  refine z_iconst (v := nI 1) C dX6_advance_1 (by decide) ?_
  refine z_bipush (v := nI 99) C dX6_advance_2 (by decide) ?_
  refine zs_call C (mX6_in_yes l D κ n 1 99 (by omega) (by omega) (by omega)) gX6_advance_X6_in rfl rfl rfl hdX6_in ⟨Nat.le_of_ble_eq_true rfl, Nat.le_of_ble_eq_true rfl⟩ rfl (Nat.le_of_ble_eq_true rfl) dX6_advance_4 ⟨Nat.zero_le _, Nat.zero_le _⟩ ?_
  refine zb_if_ne C 16 dX6_advance_7 (by decide) (fun _ => ?_) (fun q => absurd q (by decide))
  refine z_aload_n C dX6_advance_16 0 rfl ?_
  refine zm_get_now C hin k13 dX6_advance_17 ?_
  refine z_iconst (v := nI 0) C dX6_advance_20 (by decide) ?_
  refine zm_ald_now C (by omega) dX6_advance_21 ?_
  refine z_iload_n C dX6_advance_22 1 rfl ?_
  refine zn_iadd C dX6_advance_23 ?_
  refine z_sipush (v := nI 9999) C dX6_advance_24 (by decide) ?_
  refine zn_icmp_le C 36 dX6_advance_27 (by decide) (by omega) (by omega) (fun h1 => ?_) (fun h2 => ?_)
  · refine z_aload_n C dX6_advance_36 0 rfl ?_
    refine zm_call C (mX6_remembers l D κ Ad _ _ _ _ _ od _ _ h (by omega)) gX6_advance_X6_remembers rfl rfl rfl hdX6_remembers ⟨Nat.le_of_ble_eq_true rfl, Nat.le_of_ble_eq_true rfl⟩ rfl (Nat.le_of_ble_eq_true rfl) dX6_advance_37 ⟨Nat.zero_le _, Nat.zero_le _⟩ ?_
    refine z_aload_n C dX6_advance_40 0 rfl ?_
    refine z_aload_n C dX6_advance_41 0 rfl ?_
    refine z_iload_n C dX6_advance_42 1 rfl ?_
    refine zm_call C (mX6_passes l D κ Ad _ _ _ _ _ _ _ _ M n hB (by omega)) gX6_advance_X6_passes rfl rfl rfl hdX6_passes ⟨Nat.le_of_ble_eq_true rfl, Nat.le_of_ble_eq_true rfl⟩ rfl (Nat.le_of_ble_eq_true rfl) dX6_advance_43 ⟨Nat.zero_le _, Nat.zero_le _⟩ ?_
    refine zm_call C (mX6_told l D κ Ad _ _ _ _ _ _ _ _ (nI (psE n nw))) gX6_advance_X6_told rfl rfl rfl hdX6_told ⟨Nat.le_of_ble_eq_true rfl, Nat.le_of_ble_eq_true rfl⟩ rfl (Nat.le_of_ble_eq_true rfl) dX6_advance_46 ⟨Nat.zero_le _, Nat.zero_le _⟩ ?_
    exact z_iret C hr hk () (rfl) trivial (List.Perm.of_eq rfl) dX6_advance_49 (Nat.le_refl _) (Nat.le_refl _)
  · exact absurd hl (by omega)
set_option maxRecDepth 100000 in
set_option maxHeartbeats 4000000 in
theorem mX6_pull_no (l : Launch) (D : va_G) (κ : Nat → ClassId) (Ad : Nat → Nat) (eo : Int32) (ip : Nat → Int32) (v nw aw od sv ot : Nat → Nat) (M : Nat) (x : Int32)  (hB : Bd M nw) (hx : isB (nw 1) x = false) : mM l yX6_pull wsX6_pull { frames := 4, cells := 0, slots := 0, locals := 84 } D κ Ad [.int (x)] eo ip v nw aw od sv ot (some (.int (nI 0))) eo ip (upN v 1 1) nw aw od sv ot := by
  refine zM_of (cc := cX6_pull) (maxL := 2) (rt := (some .int)) [(0, .ref (Ad 0)), (1, .int (x))] (by decide +kernel) rfl (Nat.le_of_ble_eq_true rfl) rfl ?_
  intro p e s m args below meth c A C hr hk hnm
  have C : zC p s m args c cX6_pull 2 wsX6_pull RX6 D (zTy κ) A := C
  have hin : ∀ w ∈ wsX60, w ∈ wsX6_pull := fun w h => List.mem_cons_of_mem _ (List.mem_append_right _ h)
  have k13 : Cond.fieldLink RX6 13 "PeatRailwayModel" "now" "[I" ∈ wsX6_pull := by decide +kernel
  obtain ⟨hM1, hM2, ht0, hnb, hnt, hj, hp⟩ := id hB
  refine z_aload_n C dX6_pull_0 0 rfl ?_
  refine z_iload_n C dX6_pull_1 1 rfl ?_
  refine zm_call C (mX6_isBlock_no l D κ Ad _ _ _ _ _ _ _ _ M x hB hx) gX6_pull_X6_isBlock rfl rfl rfl hdX6_isBlock ⟨Nat.le_of_ble_eq_true rfl, Nat.le_of_ble_eq_true rfl⟩ rfl (Nat.le_of_ble_eq_true rfl) dX6_pull_2 ⟨Nat.zero_le _, Nat.zero_le _⟩ ?_
  refine zb_if_ne C 14 dX6_pull_5 (by decide) (fun q => absurd q (by decide)) (fun _ => ?_)
  refine z_aload_n C dX6_pull_8 0 rfl ?_
  refine z_iconst (v := nI 1) C dX6_pull_9 (by decide) ?_
  refine zm_call C (mX6_refuse l D κ Ad _ _ _ _ _ _ _ _ 1) gX6_pull_X6_refuse rfl rfl rfl hdX6_refuse ⟨Nat.le_of_ble_eq_true rfl, Nat.le_of_ble_eq_true rfl⟩ rfl (Nat.le_of_ble_eq_true rfl) dX6_pull_10 ⟨Nat.zero_le _, Nat.zero_le _⟩ ?_
  exact z_iret C hr hk () (rfl) trivial (List.Perm.of_eq rfl) dX6_pull_13 (Nat.le_refl _) (Nat.le_refl _)
theorem hdX6_pull : yX6_pull.cls = RX6 ∧ yX6_pull.cls ≠ "java/lang/invoke/MethodHandle" ∧ yX6_pull.cls ≠ "java/lang/invoke/VarHandle" ∧ (parseMethodDescriptor yX6_pull.desc).map (fun d => d.parameters.length) = some 1 := by decide +kernel
set_option maxRecDepth 100000 in
set_option maxHeartbeats 4000000 in
theorem mX6_pull_ob (l : Launch) (D : va_G) (κ : Nat → ClassId) (Ad : Nat → Nat) (eo : Int32) (ip : Nat → Int32) (v nw aw od sv ot : Nat → Nat) (M : Nat) (k : Nat) (hB : Bd M nw) (hk0 : k < nw 1) (hr0 : 0 < rsn nw k) : mM l yX6_pull wsX6_pull { frames := 4, cells := 0, slots := 0, locals := 84 } D κ Ad [.int (nI k)] eo ip v nw aw od sv ot (some (.int (nI 0))) eo ip (upN v 1 2) nw aw od sv ot := by
  refine zM_of (cc := cX6_pull) (maxL := 2) (rt := (some .int)) [(0, .ref (Ad 0)), (1, .int (nI k))] (by decide +kernel) rfl (Nat.le_of_ble_eq_true rfl) rfl ?_
  intro p e s m args below meth c A C hr hk hnm
  have C : zC p s m args c cX6_pull 2 wsX6_pull RX6 D (zTy κ) A := C
  have hin : ∀ w ∈ wsX60, w ∈ wsX6_pull := fun w h => List.mem_cons_of_mem _ (List.mem_append_right _ h)
  have k13 : Cond.fieldLink RX6 13 "PeatRailwayModel" "now" "[I" ∈ wsX6_pull := by decide +kernel
  obtain ⟨hM1, hM2, ht0, hnb, hnt, hj, hp⟩ := id hB
  refine z_aload_n C dX6_pull_0 0 rfl ?_
  refine z_iload_n C dX6_pull_1 1 rfl ?_
  refine zm_call C (mX6_isBlock_k l D κ Ad _ _ _ _ _ _ _ _ M k hB (by omega)) gX6_pull_X6_isBlock rfl rfl rfl hdX6_isBlock ⟨Nat.le_of_ble_eq_true rfl, Nat.le_of_ble_eq_true rfl⟩ rfl (Nat.le_of_ble_eq_true rfl) dX6_pull_2 ⟨Nat.zero_le _, Nat.zero_le _⟩ ?_
  refine zb_if_ne C 14 dX6_pull_5 (by decide) (fun _ => ?_) (fun q => absurd q (by decide))
  refine z_aload_n C dX6_pull_14 0 rfl ?_
  refine z_iload_n C dX6_pull_15 1 rfl ?_
  refine zm_call C (mX6_reason l D κ Ad _ _ _ _ _ _ _ _ M k hB (by omega)) gX6_pull_X6_reason rfl rfl rfl hdX6_reason ⟨Nat.le_of_ble_eq_true rfl, Nat.le_of_ble_eq_true rfl⟩ rfl (Nat.le_of_ble_eq_true rfl) dX6_pull_16 ⟨Nat.zero_le _, Nat.zero_le _⟩ ?_
  have hrs := rsn_le nw k
  refine zn_if_eq C 28 dX6_pull_19 (by decide) (by omega) (fun h1 => ?_) (fun h2 => ?_)
  · exact absurd hr0 (by omega)
  · refine z_aload_n C dX6_pull_22 0 rfl ?_
    refine z_iconst (v := nI 2) C dX6_pull_23 (by decide) ?_
    refine zm_call C (mX6_refuse l D κ Ad _ _ _ _ _ _ _ _ 2) gX6_pull_X6_refuse rfl rfl rfl hdX6_refuse ⟨Nat.le_of_ble_eq_true rfl, Nat.le_of_ble_eq_true rfl⟩ rfl (Nat.le_of_ble_eq_true rfl) dX6_pull_24 ⟨Nat.zero_le _, Nat.zero_le _⟩ ?_
    exact z_iret C hr hk () (rfl) trivial (List.Perm.of_eq rfl) dX6_pull_27 (Nat.le_refl _) (Nat.le_refl _)
set_option maxRecDepth 100000 in
set_option maxHeartbeats 4000000 in
theorem mX6_pull_ok (l : Launch) (D : va_G) (κ : Nat → ClassId) (Ad : Nat → Nat) (eo : Int32) (ip : Nat → Int32) (v nw aw od sv ot : Nat → Nat) (M : Nat) (h : Nat → Nat → Nat) (k : Nat) (hB : Bd M nw) (hv2 : v 5 ≤ 10) (hk0 : k < nw 1) (hr0 : rsn nw k = 0) : mM l yX6_pull wsX6_pull { frames := 4, cells := 0, slots := 0, locals := 84 } D κ Ad [.int (nI k)] eo ip v nw aw (hiF h) sv ot (some (.int (nI (sumL (fun i => upN nw (5 + 6 * k + 4) 1 (5 + 6 * i + 4)) (upN nw (5 + 6 * k + 4) 1 1))))) eo ip (upN (upN v 5 (rmN (v 5))) 1 0) (upN nw (5 + 6 * k + 4) 1) aw (hiF (rmH h (v 5) nw)) sv ot := by
  refine zM_of (cc := cX6_pull) (maxL := 2) (rt := (some .int)) [(0, .ref (Ad 0)), (1, .int (nI k))] (by decide +kernel) rfl (Nat.le_of_ble_eq_true rfl) rfl ?_
  intro p e s m args below meth c A C hr hk hnm
  have C : zC p s m args c cX6_pull 2 wsX6_pull RX6 D (zTy κ) A := C
  have hin : ∀ w ∈ wsX60, w ∈ wsX6_pull := fun w h => List.mem_cons_of_mem _ (List.mem_append_right _ h)
  have k13 : Cond.fieldLink RX6 13 "PeatRailwayModel" "now" "[I" ∈ wsX6_pull := by decide +kernel
  obtain ⟨hM1, hM2, ht0, hnb, hnt, hj, hp⟩ := id hB
  refine z_aload_n C dX6_pull_0 0 rfl ?_
  refine z_iload_n C dX6_pull_1 1 rfl ?_
  refine zm_call C (mX6_isBlock_k l D κ Ad _ _ _ _ _ _ _ _ M k hB (by omega)) gX6_pull_X6_isBlock rfl rfl rfl hdX6_isBlock ⟨Nat.le_of_ble_eq_true rfl, Nat.le_of_ble_eq_true rfl⟩ rfl (Nat.le_of_ble_eq_true rfl) dX6_pull_2 ⟨Nat.zero_le _, Nat.zero_le _⟩ ?_
  refine zb_if_ne C 14 dX6_pull_5 (by decide) (fun _ => ?_) (fun q => absurd q (by decide))
  refine z_aload_n C dX6_pull_14 0 rfl ?_
  refine z_iload_n C dX6_pull_15 1 rfl ?_
  refine zm_call C (mX6_reason l D κ Ad _ _ _ _ _ _ _ _ M k hB (by omega)) gX6_pull_X6_reason rfl rfl rfl hdX6_reason ⟨Nat.le_of_ble_eq_true rfl, Nat.le_of_ble_eq_true rfl⟩ rfl (Nat.le_of_ble_eq_true rfl) dX6_pull_16 ⟨Nat.zero_le _, Nat.zero_le _⟩ ?_
  have hrs := rsn_le nw k
  refine zn_if_eq C 28 dX6_pull_19 (by decide) (by omega) (fun h1 => ?_) (fun h2 => ?_)
  · refine z_aload_n C dX6_pull_28 0 rfl ?_
    refine zm_call C (mX6_remembers l D κ Ad _ _ _ _ _ od _ _ h (by omega)) gX6_pull_X6_remembers rfl rfl rfl hdX6_remembers ⟨Nat.le_of_ble_eq_true rfl, Nat.le_of_ble_eq_true rfl⟩ rfl (Nat.le_of_ble_eq_true rfl) dX6_pull_29 ⟨Nat.zero_le _, Nat.zero_le _⟩ ?_
    refine z_aload_n C dX6_pull_32 0 rfl ?_
    refine zm_get_now C hin k13 dX6_pull_33 ?_
    refine z_iload_n C dX6_pull_36 1 rfl ?_
    refine zs_call C (mX6_b l D κ k) gX6_pull_X6_b rfl rfl rfl hdX6_b ⟨Nat.le_of_ble_eq_true rfl, Nat.le_of_ble_eq_true rfl⟩ rfl (Nat.le_of_ble_eq_true rfl) dX6_pull_37 ⟨Nat.zero_le _, Nat.zero_le _⟩ ?_
    refine z_iconst (v := nI 4) C dX6_pull_40 (by decide) ?_
    refine zn_iadd C dX6_pull_41 ?_
    refine z_iconst (v := nI 1) C dX6_pull_42 (by decide) ?_
    refine zm_ast_now C (by omega) dX6_pull_43 ?_
    have hB2 : Bd (M) (upN nw ((5 + 6 * k) + 4) 1) := hB.up (by omega) (by omega) (fun u _ e => by omega)
    refine z_aload_n C dX6_pull_44 0 rfl ?_
    refine z_aload_n C dX6_pull_45 0 rfl ?_
    refine zm_call C (mX6_clearSignals l D κ Ad _ _ _ _ _ _ _ _ M hB2) gX6_pull_X6_clearSignals rfl rfl rfl hdX6_clearSignals ⟨Nat.le_of_ble_eq_true rfl, Nat.le_of_ble_eq_true rfl⟩ rfl (Nat.le_of_ble_eq_true rfl) dX6_pull_46 ⟨Nat.zero_le _, Nat.zero_le _⟩ ?_
    refine zm_call C (mX6_told l D κ Ad _ _ _ _ _ _ _ _ (nI (sumL (fun i9 => (upN nw ((5 + 6 * k) + 4) 1) (5 + 6 * i9 + 4)) ((upN nw ((5 + 6 * k) + 4) 1) 1)))) gX6_pull_X6_told rfl rfl rfl hdX6_told ⟨Nat.le_of_ble_eq_true rfl, Nat.le_of_ble_eq_true rfl⟩ rfl (Nat.le_of_ble_eq_true rfl) dX6_pull_49 ⟨Nat.zero_le _, Nat.zero_le _⟩ ?_
    exact z_iret C hr hk () (rfl) trivial (List.Perm.of_eq rfl) dX6_pull_52 (Nat.le_refl _) (Nat.le_refl _)
  · exact absurd hr0 (by omega)
set_option maxRecDepth 100000 in
set_option maxHeartbeats 4000000 in
theorem mX6_setDanger_no (l : Launch) (D : va_G) (κ : Nat → ClassId) (Ad : Nat → Nat) (eo : Int32) (ip : Nat → Int32) (v nw aw od sv ot : Nat → Nat) (M : Nat) (x : Int32)  (hB : Bd M nw) (hx : isB (nw 1) x = false) : mM l yX6_setDanger wsX6_setDanger { frames := 2, cells := 0, slots := 0, locals := 43 } D κ Ad [.int (x)] eo ip v nw aw od sv ot (some (.int (nI 0))) eo ip (upN v 1 1) nw aw od sv ot := by
  refine zM_of (cc := cX6_setDanger) (maxL := 2) (rt := (some .int)) [(0, .ref (Ad 0)), (1, .int (x))] (by decide +kernel) rfl (Nat.le_of_ble_eq_true rfl) rfl ?_
  intro p e s m args below meth c A C hr hk hnm
  have C : zC p s m args c cX6_setDanger 2 wsX6_setDanger RX6 D (zTy κ) A := C
  have hin : ∀ w ∈ wsX60, w ∈ wsX6_setDanger := fun w h => List.mem_cons_of_mem _ (List.mem_append_right _ h)
  have k13 : Cond.fieldLink RX6 13 "PeatRailwayModel" "now" "[I" ∈ wsX6_setDanger := by decide +kernel
  obtain ⟨hM1, hM2, ht0, hnb, hnt, hj, hp⟩ := id hB
  refine z_aload_n C dX6_setDanger_0 0 rfl ?_
  refine z_iload_n C dX6_setDanger_1 1 rfl ?_
  refine zm_call C (mX6_isBlock_no l D κ Ad _ _ _ _ _ _ _ _ M x hB hx) gX6_setDanger_X6_isBlock rfl rfl rfl hdX6_isBlock ⟨Nat.le_of_ble_eq_true rfl, Nat.le_of_ble_eq_true rfl⟩ rfl (Nat.le_of_ble_eq_true rfl) dX6_setDanger_2 ⟨Nat.zero_le _, Nat.zero_le _⟩ ?_
  refine zb_if_ne C 14 dX6_setDanger_5 (by decide) (fun q => absurd q (by decide)) (fun _ => ?_)
  refine z_aload_n C dX6_setDanger_8 0 rfl ?_
  refine z_iconst (v := nI 1) C dX6_setDanger_9 (by decide) ?_
  refine zm_call C (mX6_refuse l D κ Ad _ _ _ _ _ _ _ _ 1) gX6_setDanger_X6_refuse rfl rfl rfl hdX6_refuse ⟨Nat.le_of_ble_eq_true rfl, Nat.le_of_ble_eq_true rfl⟩ rfl (Nat.le_of_ble_eq_true rfl) dX6_setDanger_10 ⟨Nat.zero_le _, Nat.zero_le _⟩ ?_
  exact z_iret C hr hk () (rfl) trivial (List.Perm.of_eq rfl) dX6_setDanger_13 (Nat.le_refl _) (Nat.le_refl _)
theorem hdX6_setDanger : yX6_setDanger.cls = RX6 ∧ yX6_setDanger.cls ≠ "java/lang/invoke/MethodHandle" ∧ yX6_setDanger.cls ≠ "java/lang/invoke/VarHandle" ∧ (parseMethodDescriptor yX6_setDanger.desc).map (fun d => d.parameters.length) = some 1 := by decide +kernel
set_option maxRecDepth 100000 in
set_option maxHeartbeats 4000000 in
theorem mX6_setDanger_ob (l : Launch) (D : va_G) (κ : Nat → ClassId) (Ad : Nat → Nat) (eo : Int32) (ip : Nat → Int32) (v nw aw od sv ot : Nat → Nat) (M : Nat) (k : Nat) (hB : Bd M nw) (hk0 : k < nw 1) (hr0 : nw (5 + 6 * k + 4) = 0) : mM l yX6_setDanger wsX6_setDanger { frames := 2, cells := 0, slots := 0, locals := 43 } D κ Ad [.int (nI k)] eo ip v nw aw od sv ot (some (.int (nI 0))) eo ip (upN v 1 2) nw aw od sv ot := by
  refine zM_of (cc := cX6_setDanger) (maxL := 2) (rt := (some .int)) [(0, .ref (Ad 0)), (1, .int (nI k))] (by decide +kernel) rfl (Nat.le_of_ble_eq_true rfl) rfl ?_
  intro p e s m args below meth c A C hr hk hnm
  have C : zC p s m args c cX6_setDanger 2 wsX6_setDanger RX6 D (zTy κ) A := C
  have hin : ∀ w ∈ wsX60, w ∈ wsX6_setDanger := fun w h => List.mem_cons_of_mem _ (List.mem_append_right _ h)
  have k13 : Cond.fieldLink RX6 13 "PeatRailwayModel" "now" "[I" ∈ wsX6_setDanger := by decide +kernel
  obtain ⟨hM1, hM2, ht0, hnb, hnt, hj, hp⟩ := id hB
  refine z_aload_n C dX6_setDanger_0 0 rfl ?_
  refine z_iload_n C dX6_setDanger_1 1 rfl ?_
  refine zm_call C (mX6_isBlock_k l D κ Ad _ _ _ _ _ _ _ _ M k hB (by omega)) gX6_setDanger_X6_isBlock rfl rfl rfl hdX6_isBlock ⟨Nat.le_of_ble_eq_true rfl, Nat.le_of_ble_eq_true rfl⟩ rfl (Nat.le_of_ble_eq_true rfl) dX6_setDanger_2 ⟨Nat.zero_le _, Nat.zero_le _⟩ ?_
  refine zb_if_ne C 14 dX6_setDanger_5 (by decide) (fun _ => ?_) (fun q => absurd q (by decide))
  refine z_aload_n C dX6_setDanger_14 0 rfl ?_
  refine zm_get_now C hin k13 dX6_setDanger_15 ?_
  refine z_iload_n C dX6_setDanger_18 1 rfl ?_
  refine zs_call C (mX6_b l D κ k) gX6_setDanger_X6_b rfl rfl rfl hdX6_b ⟨Nat.le_of_ble_eq_true rfl, Nat.le_of_ble_eq_true rfl⟩ rfl (Nat.le_of_ble_eq_true rfl) dX6_setDanger_19 ⟨Nat.zero_le _, Nat.zero_le _⟩ ?_
  refine z_iconst (v := nI 4) C dX6_setDanger_22 (by decide) ?_
  refine zn_iadd C dX6_setDanger_23 ?_
  refine zm_ald_now C (by omega) dX6_setDanger_24 ?_
  have g1 : nw ((5 + 6 * k) + 4) ≤ M := hB.j (by omega) (by omega)
  refine zn_if_ne C 34 dX6_setDanger_25 (by decide) (by omega) (fun h2 => ?_) (fun h3 => ?_)
  · exact absurd hr0 (by omega)
  · refine z_aload_n C dX6_setDanger_28 0 rfl ?_
    refine z_iconst (v := nI 2) C dX6_setDanger_29 (by decide) ?_
    refine zm_call C (mX6_refuse l D κ Ad _ _ _ _ _ _ _ _ 2) gX6_setDanger_X6_refuse rfl rfl rfl hdX6_refuse ⟨Nat.le_of_ble_eq_true rfl, Nat.le_of_ble_eq_true rfl⟩ rfl (Nat.le_of_ble_eq_true rfl) dX6_setDanger_30 ⟨Nat.zero_le _, Nat.zero_le _⟩ ?_
    exact z_iret C hr hk () (rfl) trivial (List.Perm.of_eq rfl) dX6_setDanger_33 (Nat.le_refl _) (Nat.le_refl _)
set_option maxRecDepth 100000 in
set_option maxHeartbeats 4000000 in
theorem mX6_setDanger_ok (l : Launch) (D : va_G) (κ : Nat → ClassId) (Ad : Nat → Nat) (eo : Int32) (ip : Nat → Int32) (v nw aw od sv ot : Nat → Nat) (M : Nat) (h : Nat → Nat → Nat) (k : Nat) (hB : Bd M nw) (hv2 : v 5 ≤ 10) (hk0 : k < nw 1) (hr0 : 0 < nw (5 + 6 * k + 4)) : mM l yX6_setDanger wsX6_setDanger { frames := 2, cells := 0, slots := 0, locals := 43 } D κ Ad [.int (nI k)] eo ip v nw aw (hiF h) sv ot (some (.int (nI (sumL (fun i => upN nw (5 + 6 * k + 4) 0 (5 + 6 * i + 4)) (upN nw (5 + 6 * k + 4) 0 1))))) eo ip (upN (upN v 5 (rmN (v 5))) 1 0) (upN nw (5 + 6 * k + 4) 0) aw (hiF (rmH h (v 5) nw)) sv ot := by
  refine zM_of (cc := cX6_setDanger) (maxL := 2) (rt := (some .int)) [(0, .ref (Ad 0)), (1, .int (nI k))] (by decide +kernel) rfl (Nat.le_of_ble_eq_true rfl) rfl ?_
  intro p e s m args below meth c A C hr hk hnm
  have C : zC p s m args c cX6_setDanger 2 wsX6_setDanger RX6 D (zTy κ) A := C
  have hin : ∀ w ∈ wsX60, w ∈ wsX6_setDanger := fun w h => List.mem_cons_of_mem _ (List.mem_append_right _ h)
  have k13 : Cond.fieldLink RX6 13 "PeatRailwayModel" "now" "[I" ∈ wsX6_setDanger := by decide +kernel
  obtain ⟨hM1, hM2, ht0, hnb, hnt, hj, hp⟩ := id hB
  refine z_aload_n C dX6_setDanger_0 0 rfl ?_
  refine z_iload_n C dX6_setDanger_1 1 rfl ?_
  refine zm_call C (mX6_isBlock_k l D κ Ad _ _ _ _ _ _ _ _ M k hB (by omega)) gX6_setDanger_X6_isBlock rfl rfl rfl hdX6_isBlock ⟨Nat.le_of_ble_eq_true rfl, Nat.le_of_ble_eq_true rfl⟩ rfl (Nat.le_of_ble_eq_true rfl) dX6_setDanger_2 ⟨Nat.zero_le _, Nat.zero_le _⟩ ?_
  refine zb_if_ne C 14 dX6_setDanger_5 (by decide) (fun _ => ?_) (fun q => absurd q (by decide))
  refine z_aload_n C dX6_setDanger_14 0 rfl ?_
  refine zm_get_now C hin k13 dX6_setDanger_15 ?_
  refine z_iload_n C dX6_setDanger_18 1 rfl ?_
  refine zs_call C (mX6_b l D κ k) gX6_setDanger_X6_b rfl rfl rfl hdX6_b ⟨Nat.le_of_ble_eq_true rfl, Nat.le_of_ble_eq_true rfl⟩ rfl (Nat.le_of_ble_eq_true rfl) dX6_setDanger_19 ⟨Nat.zero_le _, Nat.zero_le _⟩ ?_
  refine z_iconst (v := nI 4) C dX6_setDanger_22 (by decide) ?_
  refine zn_iadd C dX6_setDanger_23 ?_
  refine zm_ald_now C (by omega) dX6_setDanger_24 ?_
  have g1 : nw ((5 + 6 * k) + 4) ≤ M := hB.j (by omega) (by omega)
  refine zn_if_ne C 34 dX6_setDanger_25 (by decide) (by omega) (fun h2 => ?_) (fun h3 => ?_)
  · refine z_aload_n C dX6_setDanger_34 0 rfl ?_
    refine zm_call C (mX6_remembers l D κ Ad _ _ _ _ _ od _ _ h (by omega)) gX6_setDanger_X6_remembers rfl rfl rfl hdX6_remembers ⟨Nat.le_of_ble_eq_true rfl, Nat.le_of_ble_eq_true rfl⟩ rfl (Nat.le_of_ble_eq_true rfl) dX6_setDanger_35 ⟨Nat.zero_le _, Nat.zero_le _⟩ ?_
    refine z_aload_n C dX6_setDanger_38 0 rfl ?_
    refine zm_get_now C hin k13 dX6_setDanger_39 ?_
    refine z_iload_n C dX6_setDanger_42 1 rfl ?_
    refine zs_call C (mX6_b l D κ k) gX6_setDanger_X6_b rfl rfl rfl hdX6_b ⟨Nat.le_of_ble_eq_true rfl, Nat.le_of_ble_eq_true rfl⟩ rfl (Nat.le_of_ble_eq_true rfl) dX6_setDanger_43 ⟨Nat.zero_le _, Nat.zero_le _⟩ ?_
    refine z_iconst (v := nI 4) C dX6_setDanger_46 (by decide) ?_
    refine zn_iadd C dX6_setDanger_47 ?_
    refine z_iconst (v := nI 0) C dX6_setDanger_48 (by decide) ?_
    refine zm_ast_now C (by omega) dX6_setDanger_49 ?_
    have hB2 : Bd (M) (upN nw ((5 + 6 * k) + 4) 0) := hB.up (by omega) (by omega) (fun u _ e => by omega)
    refine z_aload_n C dX6_setDanger_50 0 rfl ?_
    refine z_aload_n C dX6_setDanger_51 0 rfl ?_
    refine zm_call C (mX6_clearSignals l D κ Ad _ _ _ _ _ _ _ _ M hB2) gX6_setDanger_X6_clearSignals rfl rfl rfl hdX6_clearSignals ⟨Nat.le_of_ble_eq_true rfl, Nat.le_of_ble_eq_true rfl⟩ rfl (Nat.le_of_ble_eq_true rfl) dX6_setDanger_52 ⟨Nat.zero_le _, Nat.zero_le _⟩ ?_
    refine zm_call C (mX6_told l D κ Ad _ _ _ _ _ _ _ _ (nI (sumL (fun i9 => (upN nw ((5 + 6 * k) + 4) 0) (5 + 6 * i9 + 4)) ((upN nw ((5 + 6 * k) + 4) 0) 1)))) gX6_setDanger_X6_told rfl rfl rfl hdX6_told ⟨Nat.le_of_ble_eq_true rfl, Nat.le_of_ble_eq_true rfl⟩ rfl (Nat.le_of_ble_eq_true rfl) dX6_setDanger_55 ⟨Nat.zero_le _, Nat.zero_le _⟩ ?_
    exact z_iret C hr hk () (rfl) trivial (List.Perm.of_eq rfl) dX6_setDanger_58 (Nat.le_refl _) (Nat.le_refl _)
  · exact absurd hr0 (by omega)
set_option maxRecDepth 100000 in
set_option maxHeartbeats 4000000 in
theorem mX6_repair_no (l : Launch) (D : va_G) (κ : Nat → ClassId) (Ad : Nat → Nat) (eo : Int32) (ip : Nat → Int32) (v nw aw od sv ot : Nat → Nat) (M : Nat) (x : Int32)  (hB : Bd M nw) (hx : isB (nw 1) x = false) : mM l yX6_repair wsX6_repair { frames := 2, cells := 0, slots := 0, locals := 43 } D κ Ad [.int (x)] eo ip v nw aw od sv ot (some (.int (nI 0))) eo ip (upN v 1 1) nw aw od sv ot := by
  refine zM_of (cc := cX6_repair) (maxL := 3) (rt := (some .int)) [(0, .ref (Ad 0)), (1, .int (x))] (by decide +kernel) rfl (Nat.le_of_ble_eq_true rfl) rfl ?_
  intro p e s m args below meth c A C hr hk hnm
  have C : zC p s m args c cX6_repair 3 wsX6_repair RX6 D (zTy κ) A := C
  have hin : ∀ w ∈ wsX60, w ∈ wsX6_repair := fun w h => List.mem_cons_of_mem _ (List.mem_append_right _ h)
  have k13 : Cond.fieldLink RX6 13 "PeatRailwayModel" "now" "[I" ∈ wsX6_repair := by decide +kernel
  obtain ⟨hM1, hM2, ht0, hnb, hnt, hj, hp⟩ := id hB
  refine z_aload_n C dX6_repair_0 0 rfl ?_
  refine z_iload_n C dX6_repair_1 1 rfl ?_
  refine zm_call C (mX6_isBlock_no l D κ Ad _ _ _ _ _ _ _ _ M x hB hx) gX6_repair_X6_isBlock rfl rfl rfl hdX6_isBlock ⟨Nat.le_of_ble_eq_true rfl, Nat.le_of_ble_eq_true rfl⟩ rfl (Nat.le_of_ble_eq_true rfl) dX6_repair_2 ⟨Nat.zero_le _, Nat.zero_le _⟩ ?_
  refine zb_if_ne C 14 dX6_repair_5 (by decide) (fun q => absurd q (by decide)) (fun _ => ?_)
  refine z_aload_n C dX6_repair_8 0 rfl ?_
  refine z_iconst (v := nI 1) C dX6_repair_9 (by decide) ?_
  refine zm_call C (mX6_refuse l D κ Ad _ _ _ _ _ _ _ _ 1) gX6_repair_X6_refuse rfl rfl rfl hdX6_refuse ⟨Nat.le_of_ble_eq_true rfl, Nat.le_of_ble_eq_true rfl⟩ rfl (Nat.le_of_ble_eq_true rfl) dX6_repair_10 ⟨Nat.zero_le _, Nat.zero_le _⟩ ?_
  exact z_iret C hr hk () (rfl) trivial (List.Perm.of_eq rfl) dX6_repair_13 (Nat.le_refl _) (Nat.le_refl _)
theorem hdX6_repair : yX6_repair.cls = RX6 ∧ yX6_repair.cls ≠ "java/lang/invoke/MethodHandle" ∧ yX6_repair.cls ≠ "java/lang/invoke/VarHandle" ∧ (parseMethodDescriptor yX6_repair.desc).map (fun d => d.parameters.length) = some 1 := by decide +kernel
set_option maxRecDepth 100000 in
set_option maxHeartbeats 4000000 in
theorem mX6_repair_ob (l : Launch) (D : va_G) (κ : Nat → ClassId) (Ad : Nat → Nat) (eo : Int32) (ip : Nat → Int32) (v nw aw od sv ot : Nat → Nat) (M : Nat) (k : Nat) (hB : Bd M nw) (hk0 : k < nw 1) (hr0 : 0 < trAt nw k) : mM l yX6_repair wsX6_repair { frames := 2, cells := 0, slots := 0, locals := 43 } D κ Ad [.int (nI k)] eo ip v nw aw od sv ot (some (.int (nI 0))) eo ip (upN v 1 2) nw aw od sv ot := by
  refine zM_of (cc := cX6_repair) (maxL := 3) (rt := (some .int)) [(0, .ref (Ad 0)), (1, .int (nI k))] (by decide +kernel) rfl (Nat.le_of_ble_eq_true rfl) rfl ?_
  intro p e s m args below meth c A C hr hk hnm
  have C : zC p s m args c cX6_repair 3 wsX6_repair RX6 D (zTy κ) A := C
  have hin : ∀ w ∈ wsX60, w ∈ wsX6_repair := fun w h => List.mem_cons_of_mem _ (List.mem_append_right _ h)
  have k13 : Cond.fieldLink RX6 13 "PeatRailwayModel" "now" "[I" ∈ wsX6_repair := by decide +kernel
  obtain ⟨hM1, hM2, ht0, hnb, hnt, hj, hp⟩ := id hB
  refine z_aload_n C dX6_repair_0 0 rfl ?_
  refine z_iload_n C dX6_repair_1 1 rfl ?_
  refine zm_call C (mX6_isBlock_k l D κ Ad _ _ _ _ _ _ _ _ M k hB (by omega)) gX6_repair_X6_isBlock rfl rfl rfl hdX6_isBlock ⟨Nat.le_of_ble_eq_true rfl, Nat.le_of_ble_eq_true rfl⟩ rfl (Nat.le_of_ble_eq_true rfl) dX6_repair_2 ⟨Nat.zero_le _, Nat.zero_le _⟩ ?_
  refine zb_if_ne C 14 dX6_repair_5 (by decide) (fun _ => ?_) (fun q => absurd q (by decide))
  refine z_aload_n C dX6_repair_14 0 rfl ?_
  refine z_iload_n C dX6_repair_15 1 rfl ?_
  refine zm_call C (mX6_trainAt l D κ Ad _ _ _ _ _ _ _ _ M k hB (by omega)) gX6_repair_X6_trainAt rfl rfl rfl hdX6_trainAt ⟨Nat.le_of_ble_eq_true rfl, Nat.le_of_ble_eq_true rfl⟩ rfl (Nat.le_of_ble_eq_true rfl) dX6_repair_16 ⟨Nat.zero_le _, Nat.zero_le _⟩ ?_
  have htr := trAt_le nw k
  refine z_iconst (v := (-1)) C dX6_repair_19 (by decide) ?_
  refine zt_icmp_eq C 29 dX6_repair_20 (by decide) (by omega) (fun h1 => ?_) (fun h2 => ?_)
  · exact absurd hr0 (by omega)
  · refine z_aload_n C dX6_repair_23 0 rfl ?_
    refine z_iconst (v := nI 2) C dX6_repair_24 (by decide) ?_
    refine zm_call C (mX6_refuse l D κ Ad _ _ _ _ _ _ _ _ 2) gX6_repair_X6_refuse rfl rfl rfl hdX6_refuse ⟨Nat.le_of_ble_eq_true rfl, Nat.le_of_ble_eq_true rfl⟩ rfl (Nat.le_of_ble_eq_true rfl) dX6_repair_25 ⟨Nat.zero_le _, Nat.zero_le _⟩ ?_
    exact z_iret C hr hk () (rfl) trivial (List.Perm.of_eq rfl) dX6_repair_28 (Nat.le_refl _) (Nat.le_refl _)
set_option maxRecDepth 100000 in
set_option maxHeartbeats 4000000 in
theorem mX6_repair_ok (l : Launch) (D : va_G) (κ : Nat → ClassId) (Ad : Nat → Nat) (eo : Int32) (ip : Nat → Int32) (v nw aw od sv ot : Nat → Nat) (M : Nat) (h : Nat → Nat → Nat) (k : Nat) (hB : Bd M nw) (hv2 : v 5 ≤ 10) (hk0 : k < nw 1) (hr0 : trAt nw k = 0) : mM l yX6_repair wsX6_repair { frames := 2, cells := 0, slots := 0, locals := 43 } D κ Ad [.int (nI k)] eo ip v nw aw (hiF h) sv ot (some (.int (nI (nw (5 + 6 * k + 1))))) eo ip (upN (upN v 5 (rmN (v 5))) 1 0) (upN nw (5 + 6 * k + 1) 0) aw (hiF (rmH h (v 5) nw)) sv ot := by
  refine zM_of (cc := cX6_repair) (maxL := 3) (rt := (some .int)) [(0, .ref (Ad 0)), (1, .int (nI k))] (by decide +kernel) rfl (Nat.le_of_ble_eq_true rfl) rfl ?_
  intro p e s m args below meth c A C hr hk hnm
  have C : zC p s m args c cX6_repair 3 wsX6_repair RX6 D (zTy κ) A := C
  have hin : ∀ w ∈ wsX60, w ∈ wsX6_repair := fun w h => List.mem_cons_of_mem _ (List.mem_append_right _ h)
  have k13 : Cond.fieldLink RX6 13 "PeatRailwayModel" "now" "[I" ∈ wsX6_repair := by decide +kernel
  obtain ⟨hM1, hM2, ht0, hnb, hnt, hj, hp⟩ := id hB
  refine z_aload_n C dX6_repair_0 0 rfl ?_
  refine z_iload_n C dX6_repair_1 1 rfl ?_
  refine zm_call C (mX6_isBlock_k l D κ Ad _ _ _ _ _ _ _ _ M k hB (by omega)) gX6_repair_X6_isBlock rfl rfl rfl hdX6_isBlock ⟨Nat.le_of_ble_eq_true rfl, Nat.le_of_ble_eq_true rfl⟩ rfl (Nat.le_of_ble_eq_true rfl) dX6_repair_2 ⟨Nat.zero_le _, Nat.zero_le _⟩ ?_
  refine zb_if_ne C 14 dX6_repair_5 (by decide) (fun _ => ?_) (fun q => absurd q (by decide))
  refine z_aload_n C dX6_repair_14 0 rfl ?_
  refine z_iload_n C dX6_repair_15 1 rfl ?_
  refine zm_call C (mX6_trainAt l D κ Ad _ _ _ _ _ _ _ _ M k hB (by omega)) gX6_repair_X6_trainAt rfl rfl rfl hdX6_trainAt ⟨Nat.le_of_ble_eq_true rfl, Nat.le_of_ble_eq_true rfl⟩ rfl (Nat.le_of_ble_eq_true rfl) dX6_repair_16 ⟨Nat.zero_le _, Nat.zero_le _⟩ ?_
  have htr := trAt_le nw k
  refine z_iconst (v := (-1)) C dX6_repair_19 (by decide) ?_
  refine zt_icmp_eq C 29 dX6_repair_20 (by decide) (by omega) (fun h1 => ?_) (fun h2 => ?_)
  · refine z_aload_n C dX6_repair_29 0 rfl ?_
    refine zm_call C (mX6_remembers l D κ Ad _ _ _ _ _ od _ _ h (by omega)) gX6_repair_X6_remembers rfl rfl rfl hdX6_remembers ⟨Nat.le_of_ble_eq_true rfl, Nat.le_of_ble_eq_true rfl⟩ rfl (Nat.le_of_ble_eq_true rfl) dX6_repair_30 ⟨Nat.zero_le _, Nat.zero_le _⟩ ?_
    refine z_aload_n C dX6_repair_33 0 rfl ?_
    refine zm_get_now C hin k13 dX6_repair_34 ?_
    refine z_iload_n C dX6_repair_37 1 rfl ?_
    refine zs_call C (mX6_b l D κ k) gX6_repair_X6_b rfl rfl rfl hdX6_b ⟨Nat.le_of_ble_eq_true rfl, Nat.le_of_ble_eq_true rfl⟩ rfl (Nat.le_of_ble_eq_true rfl) dX6_repair_38 ⟨Nat.zero_le _, Nat.zero_le _⟩ ?_
    refine z_iconst (v := nI 1) C dX6_repair_41 (by decide) ?_
    refine zn_iadd C dX6_repair_42 ?_
    refine zm_ald_now C (by omega) dX6_repair_43 ?_
    have g3 : nw ((5 + 6 * k) + 1) ≤ M := hB.j (by omega) (by omega)
    refine z_istore_n C [(2, .int (nI (nw ((5 + 6 * k) + 1)))), (0, .ref (Ad 0)), (1, .int (nI k))] dX6_repair_44 (by decide) rfl ?_
    refine z_aload_n C dX6_repair_45 1 rfl ?_
    refine zm_get_now C hin k13 dX6_repair_46 ?_
    refine z_iload_n C dX6_repair_49 2 rfl ?_
    refine zs_call C (mX6_b l D κ k) gX6_repair_X6_b rfl rfl rfl hdX6_b ⟨Nat.le_of_ble_eq_true rfl, Nat.le_of_ble_eq_true rfl⟩ rfl (Nat.le_of_ble_eq_true rfl) dX6_repair_50 ⟨Nat.zero_le _, Nat.zero_le _⟩ ?_
    refine z_iconst (v := nI 1) C dX6_repair_53 (by decide) ?_
    refine zn_iadd C dX6_repair_54 ?_
    refine z_iconst (v := nI 0) C dX6_repair_55 (by decide) ?_
    refine zm_ast_now C (by omega) dX6_repair_56 ?_
    refine z_aload_n C dX6_repair_57 1 rfl ?_
    refine z_iload_n C dX6_repair_58 0 rfl ?_
    refine zm_call C (mX6_told l D κ Ad _ _ _ _ _ _ _ _ (nI (nw ((5 + 6 * k) + 1)))) gX6_repair_X6_told rfl rfl rfl hdX6_told ⟨Nat.le_of_ble_eq_true rfl, Nat.le_of_ble_eq_true rfl⟩ rfl (Nat.le_of_ble_eq_true rfl) dX6_repair_59 ⟨Nat.zero_le _, Nat.zero_le _⟩ ?_
    exact z_iret C hr hk () (rfl) trivial (List.Perm.of_eq rfl) dX6_repair_62 (Nat.le_refl _) (Nat.le_refl _)
  · exact absurd hr0 (by omega)
set_option maxRecDepth 100000 in
set_option maxHeartbeats 4000000 in
theorem mX6_removeWagons_no (l : Launch) (D : va_G) (κ : Nat → ClassId) (Ad : Nat → Nat) (eo : Int32) (ip : Nat → Int32) (v nw aw od sv ot : Nat → Nat) (M : Nat) (x : Int32)  (hB : Bd M nw) (hx : isB (nw 1) x = false) : mM l yX6_removeWagons wsX6_removeWagons { frames := 2, cells := 0, slots := 0, locals := 43 } D κ Ad [.int (x)] eo ip v nw aw od sv ot (some (.int (nI 0))) eo ip (upN v 1 1) nw aw od sv ot := by
  refine zM_of (cc := cX6_removeWagons) (maxL := 3) (rt := (some .int)) [(0, .ref (Ad 0)), (1, .int (x))] (by decide +kernel) rfl (Nat.le_of_ble_eq_true rfl) rfl ?_
  intro p e s m args below meth c A C hr hk hnm
  have C : zC p s m args c cX6_removeWagons 3 wsX6_removeWagons RX6 D (zTy κ) A := C
  have hin : ∀ w ∈ wsX60, w ∈ wsX6_removeWagons := fun w h => List.mem_cons_of_mem _ (List.mem_append_right _ h)
  have k13 : Cond.fieldLink RX6 13 "PeatRailwayModel" "now" "[I" ∈ wsX6_removeWagons := by decide +kernel
  obtain ⟨hM1, hM2, ht0, hnb, hnt, hj, hp⟩ := id hB
  refine z_aload_n C dX6_removeWagons_0 0 rfl ?_
  refine z_iload_n C dX6_removeWagons_1 1 rfl ?_
  refine zm_call C (mX6_isBlock_no l D κ Ad _ _ _ _ _ _ _ _ M x hB hx) gX6_removeWagons_X6_isBlock rfl rfl rfl hdX6_isBlock ⟨Nat.le_of_ble_eq_true rfl, Nat.le_of_ble_eq_true rfl⟩ rfl (Nat.le_of_ble_eq_true rfl) dX6_removeWagons_2 ⟨Nat.zero_le _, Nat.zero_le _⟩ ?_
  refine zb_if_ne C 14 dX6_removeWagons_5 (by decide) (fun q => absurd q (by decide)) (fun _ => ?_)
  refine z_aload_n C dX6_removeWagons_8 0 rfl ?_
  refine z_iconst (v := nI 1) C dX6_removeWagons_9 (by decide) ?_
  refine zm_call C (mX6_refuse l D κ Ad _ _ _ _ _ _ _ _ 1) gX6_removeWagons_X6_refuse rfl rfl rfl hdX6_refuse ⟨Nat.le_of_ble_eq_true rfl, Nat.le_of_ble_eq_true rfl⟩ rfl (Nat.le_of_ble_eq_true rfl) dX6_removeWagons_10 ⟨Nat.zero_le _, Nat.zero_le _⟩ ?_
  exact z_iret C hr hk () (rfl) trivial (List.Perm.of_eq rfl) dX6_removeWagons_13 (Nat.le_refl _) (Nat.le_refl _)
theorem hdX6_removeWagons : yX6_removeWagons.cls = RX6 ∧ yX6_removeWagons.cls ≠ "java/lang/invoke/MethodHandle" ∧ yX6_removeWagons.cls ≠ "java/lang/invoke/VarHandle" ∧ (parseMethodDescriptor yX6_removeWagons.desc).map (fun d => d.parameters.length) = some 1 := by decide +kernel
set_option maxRecDepth 100000 in
set_option maxHeartbeats 4000000 in
theorem mX6_removeWagons_ok (l : Launch) (D : va_G) (κ : Nat → ClassId) (Ad : Nat → Nat) (eo : Int32) (ip : Nat → Int32) (v nw aw od sv ot : Nat → Nat) (M : Nat) (h : Nat → Nat → Nat) (k : Nat) (hB : Bd M nw) (hv2 : v 5 ≤ 10) (hk0 : k < nw 1) : mM l yX6_removeWagons wsX6_removeWagons { frames := 2, cells := 0, slots := 0, locals := 43 } D κ Ad [.int (nI k)] eo ip v nw aw (hiF h) sv ot (some (.int (nI (nw (5 + 6 * k + 5))))) eo ip (upN (upN v 5 (rmN (v 5))) 1 0) (upN (upN nw (5 + 6 * k + 5) 0) 3 (nw 3 + nw (5 + 6 * k + 5))) aw (hiF (rmH h (v 5) nw)) sv ot := by
  refine zM_of (cc := cX6_removeWagons) (maxL := 3) (rt := (some .int)) [(0, .ref (Ad 0)), (1, .int (nI k))] (by decide +kernel) rfl (Nat.le_of_ble_eq_true rfl) rfl ?_
  intro p e s m args below meth c A C hr hk hnm
  have C : zC p s m args c cX6_removeWagons 3 wsX6_removeWagons RX6 D (zTy κ) A := C
  have hin : ∀ w ∈ wsX60, w ∈ wsX6_removeWagons := fun w h => List.mem_cons_of_mem _ (List.mem_append_right _ h)
  have k13 : Cond.fieldLink RX6 13 "PeatRailwayModel" "now" "[I" ∈ wsX6_removeWagons := by decide +kernel
  obtain ⟨hM1, hM2, ht0, hnb, hnt, hj, hp⟩ := id hB
  refine z_aload_n C dX6_removeWagons_0 0 rfl ?_
  refine z_iload_n C dX6_removeWagons_1 1 rfl ?_
  refine zm_call C (mX6_isBlock_k l D κ Ad _ _ _ _ _ _ _ _ M k hB (by omega)) gX6_removeWagons_X6_isBlock rfl rfl rfl hdX6_isBlock ⟨Nat.le_of_ble_eq_true rfl, Nat.le_of_ble_eq_true rfl⟩ rfl (Nat.le_of_ble_eq_true rfl) dX6_removeWagons_2 ⟨Nat.zero_le _, Nat.zero_le _⟩ ?_
  refine zb_if_ne C 14 dX6_removeWagons_5 (by decide) (fun _ => ?_) (fun q => absurd q (by decide))
  refine z_aload_n C dX6_removeWagons_14 0 rfl ?_
  refine zm_call C (mX6_remembers l D κ Ad _ _ _ _ _ od _ _ h (by omega)) gX6_removeWagons_X6_remembers rfl rfl rfl hdX6_remembers ⟨Nat.le_of_ble_eq_true rfl, Nat.le_of_ble_eq_true rfl⟩ rfl (Nat.le_of_ble_eq_true rfl) dX6_removeWagons_15 ⟨Nat.zero_le _, Nat.zero_le _⟩ ?_
  refine z_aload_n C dX6_removeWagons_18 0 rfl ?_
  refine zm_get_now C hin k13 dX6_removeWagons_19 ?_
  refine z_iload_n C dX6_removeWagons_22 1 rfl ?_
  refine zs_call C (mX6_b l D κ k) gX6_removeWagons_X6_b rfl rfl rfl hdX6_b ⟨Nat.le_of_ble_eq_true rfl, Nat.le_of_ble_eq_true rfl⟩ rfl (Nat.le_of_ble_eq_true rfl) dX6_removeWagons_23 ⟨Nat.zero_le _, Nat.zero_le _⟩ ?_
  refine z_iconst (v := nI 5) C dX6_removeWagons_26 (by decide) ?_
  refine zn_iadd C dX6_removeWagons_27 ?_
  refine zm_ald_now C (by omega) dX6_removeWagons_28 ?_
  have g1 : nw ((5 + 6 * k) + 5) ≤ M := hB.j (by omega) (by omega)
  refine z_istore_n C [(2, .int (nI (nw ((5 + 6 * k) + 5)))), (0, .ref (Ad 0)), (1, .int (nI k))] dX6_removeWagons_29 (by decide) rfl ?_
  refine z_aload_n C dX6_removeWagons_30 1 rfl ?_
  refine zm_get_now C hin k13 dX6_removeWagons_31 ?_
  refine z_iload_n C dX6_removeWagons_34 2 rfl ?_
  refine zs_call C (mX6_b l D κ k) gX6_removeWagons_X6_b rfl rfl rfl hdX6_b ⟨Nat.le_of_ble_eq_true rfl, Nat.le_of_ble_eq_true rfl⟩ rfl (Nat.le_of_ble_eq_true rfl) dX6_removeWagons_35 ⟨Nat.zero_le _, Nat.zero_le _⟩ ?_
  refine z_iconst (v := nI 5) C dX6_removeWagons_38 (by decide) ?_
  refine zn_iadd C dX6_removeWagons_39 ?_
  refine z_iconst (v := nI 0) C dX6_removeWagons_40 (by decide) ?_
  refine zm_ast_now C (by omega) dX6_removeWagons_41 ?_
  refine z_aload_n C dX6_removeWagons_42 1 rfl ?_
  refine zm_get_now C hin k13 dX6_removeWagons_43 ?_
  refine z_iconst (v := nI 3) C dX6_removeWagons_46 (by decide) ?_
  refine z_dup2 C dX6_removeWagons_47 rfl rfl ?_
  refine zm_ald_now C (by omega) dX6_removeWagons_48 ?_
  rw [show (upN nw ((5 + 6 * k) + 5) 0) 3 = nw 3 from by rw [upN_n (by omega)]]
  refine z_iload_n C dX6_removeWagons_49 0 rfl ?_
  refine zn_iadd C dX6_removeWagons_50 ?_
  refine zm_ast_now C (by omega) dX6_removeWagons_51 ?_
  refine z_aload_n C dX6_removeWagons_52 1 rfl ?_
  refine z_iload_n C dX6_removeWagons_53 0 rfl ?_
  refine zm_call C (mX6_told l D κ Ad _ _ _ _ _ _ _ _ (nI (nw ((5 + 6 * k) + 5)))) gX6_removeWagons_X6_told rfl rfl rfl hdX6_told ⟨Nat.le_of_ble_eq_true rfl, Nat.le_of_ble_eq_true rfl⟩ rfl (Nat.le_of_ble_eq_true rfl) dX6_removeWagons_54 ⟨Nat.zero_le _, Nat.zero_le _⟩ ?_
  exact z_iret C hr hk () (rfl) trivial (List.Perm.of_eq rfl) dX6_removeWagons_57 (Nat.le_refl _) (Nat.le_refl _)
set_option maxRecDepth 100000 in
set_option maxHeartbeats 4000000 in
theorem mX6_addWagons_no (l : Launch) (D : va_G) (κ : Nat → ClassId) (Ad : Nat → Nat) (eo : Int32) (ip : Nat → Int32) (v nw aw od sv ot : Nat → Nat) (M : Nat) (x : Int32) (y : Int32) (hB : Bd M nw) (hx : isB (nw 2) x = false) : mM l yX6_addWagons wsX6_addWagons { frames := 2, cells := 0, slots := 0, locals := 43 } D κ Ad [.int (x), .int (y)] eo ip v nw aw od sv ot (some (.int (nI 0))) eo ip (upN v 1 1) nw aw od sv ot := by
  refine zM_of (cc := cX6_addWagons) (maxL := 3) (rt := (some .int)) [(0, .ref (Ad 0)), (1, .int (x)), (2, .int (y))] (by decide +kernel) rfl (Nat.le_of_ble_eq_true rfl) rfl ?_
  intro p e s m args below meth c A C hr hk hnm
  have C : zC p s m args c cX6_addWagons 3 wsX6_addWagons RX6 D (zTy κ) A := C
  have hin : ∀ w ∈ wsX60, w ∈ wsX6_addWagons := fun w h => List.mem_cons_of_mem _ (List.mem_append_right _ h)
  have k13 : Cond.fieldLink RX6 13 "PeatRailwayModel" "now" "[I" ∈ wsX6_addWagons := by decide +kernel
  obtain ⟨hM1, hM2, ht0, hnb, hnt, hj, hp⟩ := id hB
  refine z_aload_n C dX6_addWagons_0 0 rfl ?_
  refine z_iload_n C dX6_addWagons_1 1 rfl ?_
  refine zm_call C (mX6_isTrain_no l D κ Ad _ _ _ _ _ _ _ _ M x hB hx) gX6_addWagons_X6_isTrain rfl rfl rfl hdX6_isTrain ⟨Nat.le_of_ble_eq_true rfl, Nat.le_of_ble_eq_true rfl⟩ rfl (Nat.le_of_ble_eq_true rfl) dX6_addWagons_2 ⟨Nat.zero_le _, Nat.zero_le _⟩ ?_
  refine zb_if_ne C 14 dX6_addWagons_5 (by decide) (fun q => absurd q (by decide)) (fun _ => ?_)
  refine z_aload_n C dX6_addWagons_8 0 rfl ?_
  refine z_iconst (v := nI 1) C dX6_addWagons_9 (by decide) ?_
  refine zm_call C (mX6_refuse l D κ Ad _ _ _ _ _ _ _ _ 1) gX6_addWagons_X6_refuse rfl rfl rfl hdX6_refuse ⟨Nat.le_of_ble_eq_true rfl, Nat.le_of_ble_eq_true rfl⟩ rfl (Nat.le_of_ble_eq_true rfl) dX6_addWagons_10 ⟨Nat.zero_le _, Nat.zero_le _⟩ ?_
  exact z_iret C hr hk () (rfl) trivial (List.Perm.of_eq rfl) dX6_addWagons_13 (Nat.le_refl _) (Nat.le_refl _)
theorem hdX6_addWagons : yX6_addWagons.cls = RX6 ∧ yX6_addWagons.cls ≠ "java/lang/invoke/MethodHandle" ∧ yX6_addWagons.cls ≠ "java/lang/invoke/VarHandle" ∧ (parseMethodDescriptor yX6_addWagons.desc).map (fun d => d.parameters.length) = some 2 := by decide +kernel
set_option maxRecDepth 100000 in
set_option maxHeartbeats 4000000 in
theorem mX6_addWagons_rng (l : Launch) (D : va_G) (κ : Nat → ClassId) (Ad : Nat → Nat) (eo : Int32) (ip : Nat → Int32) (v nw aw od sv ot : Nat → Nat) (M : Nat) (k : Nat) (x : Int32) (hB : Bd M nw) (hk0 : k < nw 2) (hx : inI x (nI 1) (nI 11) = false) : mM l yX6_addWagons wsX6_addWagons { frames := 2, cells := 0, slots := 0, locals := 43 } D κ Ad [.int (nI k), .int (x)] eo ip v nw aw od sv ot (some (.int (nI 0))) eo ip (upN v 1 2) nw aw od sv ot := by
  refine zM_of (cc := cX6_addWagons) (maxL := 3) (rt := (some .int)) [(0, .ref (Ad 0)), (1, .int (nI k)), (2, .int (x))] (by decide +kernel) rfl (Nat.le_of_ble_eq_true rfl) rfl ?_
  intro p e s m args below meth c A C hr hk hnm
  have C : zC p s m args c cX6_addWagons 3 wsX6_addWagons RX6 D (zTy κ) A := C
  have hin : ∀ w ∈ wsX60, w ∈ wsX6_addWagons := fun w h => List.mem_cons_of_mem _ (List.mem_append_right _ h)
  have k13 : Cond.fieldLink RX6 13 "PeatRailwayModel" "now" "[I" ∈ wsX6_addWagons := by decide +kernel
  obtain ⟨hM1, hM2, ht0, hnb, hnt, hj, hp⟩ := id hB
  refine z_aload_n C dX6_addWagons_0 0 rfl ?_
  refine z_iload_n C dX6_addWagons_1 1 rfl ?_
  refine zm_call C (mX6_isTrain_k l D κ Ad _ _ _ _ _ _ _ _ M k hB (by omega)) gX6_addWagons_X6_isTrain rfl rfl rfl hdX6_isTrain ⟨Nat.le_of_ble_eq_true rfl, Nat.le_of_ble_eq_true rfl⟩ rfl (Nat.le_of_ble_eq_true rfl) dX6_addWagons_2 ⟨Nat.zero_le _, Nat.zero_le _⟩ ?_
  refine zb_if_ne C 14 dX6_addWagons_5 (by decide) (fun _ => ?_) (fun q => absurd q (by decide))
  refine z_iload_n C dX6_addWagons_14 2 rfl ?_
  refine z_iconst (v := nI 1) C dX6_addWagons_15 (by decide) ?_
  refine z_bipush (v := nI 11) C dX6_addWagons_16 (by decide) ?_
  refine zs_call C (mX6_in_no l D κ (x) (nI 1) (nI 11) hx) gX6_addWagons_X6_in rfl rfl rfl hdX6_in ⟨Nat.le_of_ble_eq_true rfl, Nat.le_of_ble_eq_true rfl⟩ rfl (Nat.le_of_ble_eq_true rfl) dX6_addWagons_18 ⟨Nat.zero_le _, Nat.zero_le _⟩ ?_
  refine zb_if_ne C 30 dX6_addWagons_21 (by decide) (fun q => absurd q (by decide)) (fun _ => ?_)
  refine z_aload_n C dX6_addWagons_24 0 rfl ?_
  refine z_iconst (v := nI 2) C dX6_addWagons_25 (by decide) ?_
  refine zm_call C (mX6_refuse l D κ Ad _ _ _ _ _ _ _ _ 2) gX6_addWagons_X6_refuse rfl rfl rfl hdX6_refuse ⟨Nat.le_of_ble_eq_true rfl, Nat.le_of_ble_eq_true rfl⟩ rfl (Nat.le_of_ble_eq_true rfl) dX6_addWagons_26 ⟨Nat.zero_le _, Nat.zero_le _⟩ ?_
  exact z_iret C hr hk () (rfl) trivial (List.Perm.of_eq rfl) dX6_addWagons_29 (Nat.le_refl _) (Nat.le_refl _)
set_option maxRecDepth 100000 in
set_option maxHeartbeats 4000000 in
theorem mX6_addWagons_lim (l : Launch) (D : va_G) (κ : Nat → ClassId) (Ad : Nat → Nat) (eo : Int32) (ip : Nat → Int32) (v nw aw od sv ot : Nat → Nat) (M : Nat) (k n : Nat) (hB : Bd M nw) (hk0 : k < nw 2) (h1n : 1 ≤ n) (h2n : n ≤ 11) (hl : 12 < nw (65 + 5 * k + 0) + n) : mM l yX6_addWagons wsX6_addWagons { frames := 2, cells := 0, slots := 0, locals := 43 } D κ Ad [.int (nI k), .int (nI n)] eo ip v nw aw od sv ot (some (.int (nI 0))) eo ip (upN v 1 3) nw aw od sv ot := by
  refine zM_of (cc := cX6_addWagons) (maxL := 3) (rt := (some .int)) [(0, .ref (Ad 0)), (1, .int (nI k)), (2, .int (nI n))] (by decide +kernel) rfl (Nat.le_of_ble_eq_true rfl) rfl ?_
  intro p e s m args below meth c A C hr hk hnm
  have C : zC p s m args c cX6_addWagons 3 wsX6_addWagons RX6 D (zTy κ) A := C
  have hin : ∀ w ∈ wsX60, w ∈ wsX6_addWagons := fun w h => List.mem_cons_of_mem _ (List.mem_append_right _ h)
  have k13 : Cond.fieldLink RX6 13 "PeatRailwayModel" "now" "[I" ∈ wsX6_addWagons := by decide +kernel
  obtain ⟨hM1, hM2, ht0, hnb, hnt, hj, hp⟩ := id hB
  refine z_aload_n C dX6_addWagons_0 0 rfl ?_
  refine z_iload_n C dX6_addWagons_1 1 rfl ?_
  refine zm_call C (mX6_isTrain_k l D κ Ad _ _ _ _ _ _ _ _ M k hB (by omega)) gX6_addWagons_X6_isTrain rfl rfl rfl hdX6_isTrain ⟨Nat.le_of_ble_eq_true rfl, Nat.le_of_ble_eq_true rfl⟩ rfl (Nat.le_of_ble_eq_true rfl) dX6_addWagons_2 ⟨Nat.zero_le _, Nat.zero_le _⟩ ?_
  refine zb_if_ne C 14 dX6_addWagons_5 (by decide) (fun _ => ?_) (fun q => absurd q (by decide))
  refine z_iload_n C dX6_addWagons_14 2 rfl ?_
  refine z_iconst (v := nI 1) C dX6_addWagons_15 (by decide) ?_
  refine z_bipush (v := nI 11) C dX6_addWagons_16 (by decide) ?_
  refine zs_call C (mX6_in_yes l D κ n 1 11 (by omega) (by omega) (by omega)) gX6_addWagons_X6_in rfl rfl rfl hdX6_in ⟨Nat.le_of_ble_eq_true rfl, Nat.le_of_ble_eq_true rfl⟩ rfl (Nat.le_of_ble_eq_true rfl) dX6_addWagons_18 ⟨Nat.zero_le _, Nat.zero_le _⟩ ?_
  refine zb_if_ne C 30 dX6_addWagons_21 (by decide) (fun _ => ?_) (fun q => absurd q (by decide))
  refine z_aload_n C dX6_addWagons_30 0 rfl ?_
  refine zm_get_now C hin k13 dX6_addWagons_31 ?_
  refine z_iload_n C dX6_addWagons_34 1 rfl ?_
  refine zs_call C (mX6_t l D κ k) gX6_addWagons_X6_t rfl rfl rfl hdX6_t ⟨Nat.le_of_ble_eq_true rfl, Nat.le_of_ble_eq_true rfl⟩ rfl (Nat.le_of_ble_eq_true rfl) dX6_addWagons_35 ⟨Nat.zero_le _, Nat.zero_le _⟩ ?_
  refine z_iconst (v := nI 0) C dX6_addWagons_38 (by decide) ?_
  refine zn_iadd C dX6_addWagons_39 ?_
  refine zm_ald_now C (by omega) dX6_addWagons_40 ?_
  have g1 : nw ((65 + 5 * k) + 0) ≤ M := hB.j (by omega) (by omega)
  refine z_iload_n C dX6_addWagons_41 2 rfl ?_
  refine zn_iadd C dX6_addWagons_42 ?_
  refine z_bipush (v := nI 12) C dX6_addWagons_43 (by decide) ?_
  refine zn_icmp_le C 54 dX6_addWagons_45 (by decide) (by omega) (by omega) (fun h2 => ?_) (fun h3 => ?_)
  · exact absurd hl (by omega)
  · refine z_aload_n C dX6_addWagons_48 0 rfl ?_
    refine z_iconst (v := nI 3) C dX6_addWagons_49 (by decide) ?_
    refine zm_call C (mX6_refuse l D κ Ad _ _ _ _ _ _ _ _ 3) gX6_addWagons_X6_refuse rfl rfl rfl hdX6_refuse ⟨Nat.le_of_ble_eq_true rfl, Nat.le_of_ble_eq_true rfl⟩ rfl (Nat.le_of_ble_eq_true rfl) dX6_addWagons_50 ⟨Nat.zero_le _, Nat.zero_le _⟩ ?_
    exact z_iret C hr hk () (rfl) trivial (List.Perm.of_eq rfl) dX6_addWagons_53 (Nat.le_refl _) (Nat.le_refl _)
set_option maxRecDepth 100000 in
set_option maxHeartbeats 4000000 in
theorem mX6_addWagons_ok (l : Launch) (D : va_G) (κ : Nat → ClassId) (Ad : Nat → Nat) (eo : Int32) (ip : Nat → Int32) (v nw aw od sv ot : Nat → Nat) (M : Nat) (h : Nat → Nat → Nat) (k n : Nat) (hB : Bd M nw) (hv2 : v 5 ≤ 10) (hk0 : k < nw 2) (h1n : 1 ≤ n) (h2n : n ≤ 11) (hl : nw (65 + 5 * k + 0) + n ≤ 12) : mM l yX6_addWagons wsX6_addWagons { frames := 2, cells := 0, slots := 0, locals := 43 } D κ Ad [.int (nI k), .int (nI n)] eo ip v nw aw (hiF h) sv ot (some (.int (nI (nw (65 + 5 * k + 0) + n)))) eo ip (upN (upN v 5 (rmN (v 5))) 1 0) (upN (upN nw (65 + 5 * k + 0) (nw (65 + 5 * k + 0) + n)) 4 (nw 4 + n)) aw (hiF (rmH h (v 5) nw)) sv ot := by
  refine zM_of (cc := cX6_addWagons) (maxL := 3) (rt := (some .int)) [(0, .ref (Ad 0)), (1, .int (nI k)), (2, .int (nI n))] (by decide +kernel) rfl (Nat.le_of_ble_eq_true rfl) rfl ?_
  intro p e s m args below meth c A C hr hk hnm
  have C : zC p s m args c cX6_addWagons 3 wsX6_addWagons RX6 D (zTy κ) A := C
  have hin : ∀ w ∈ wsX60, w ∈ wsX6_addWagons := fun w h => List.mem_cons_of_mem _ (List.mem_append_right _ h)
  have k13 : Cond.fieldLink RX6 13 "PeatRailwayModel" "now" "[I" ∈ wsX6_addWagons := by decide +kernel
  obtain ⟨hM1, hM2, ht0, hnb, hnt, hj, hp⟩ := id hB
  refine z_aload_n C dX6_addWagons_0 0 rfl ?_
  refine z_iload_n C dX6_addWagons_1 1 rfl ?_
  refine zm_call C (mX6_isTrain_k l D κ Ad _ _ _ _ _ _ _ _ M k hB (by omega)) gX6_addWagons_X6_isTrain rfl rfl rfl hdX6_isTrain ⟨Nat.le_of_ble_eq_true rfl, Nat.le_of_ble_eq_true rfl⟩ rfl (Nat.le_of_ble_eq_true rfl) dX6_addWagons_2 ⟨Nat.zero_le _, Nat.zero_le _⟩ ?_
  refine zb_if_ne C 14 dX6_addWagons_5 (by decide) (fun _ => ?_) (fun q => absurd q (by decide))
  refine z_iload_n C dX6_addWagons_14 2 rfl ?_
  refine z_iconst (v := nI 1) C dX6_addWagons_15 (by decide) ?_
  refine z_bipush (v := nI 11) C dX6_addWagons_16 (by decide) ?_
  refine zs_call C (mX6_in_yes l D κ n 1 11 (by omega) (by omega) (by omega)) gX6_addWagons_X6_in rfl rfl rfl hdX6_in ⟨Nat.le_of_ble_eq_true rfl, Nat.le_of_ble_eq_true rfl⟩ rfl (Nat.le_of_ble_eq_true rfl) dX6_addWagons_18 ⟨Nat.zero_le _, Nat.zero_le _⟩ ?_
  refine zb_if_ne C 30 dX6_addWagons_21 (by decide) (fun _ => ?_) (fun q => absurd q (by decide))
  refine z_aload_n C dX6_addWagons_30 0 rfl ?_
  refine zm_get_now C hin k13 dX6_addWagons_31 ?_
  refine z_iload_n C dX6_addWagons_34 1 rfl ?_
  refine zs_call C (mX6_t l D κ k) gX6_addWagons_X6_t rfl rfl rfl hdX6_t ⟨Nat.le_of_ble_eq_true rfl, Nat.le_of_ble_eq_true rfl⟩ rfl (Nat.le_of_ble_eq_true rfl) dX6_addWagons_35 ⟨Nat.zero_le _, Nat.zero_le _⟩ ?_
  refine z_iconst (v := nI 0) C dX6_addWagons_38 (by decide) ?_
  refine zn_iadd C dX6_addWagons_39 ?_
  refine zm_ald_now C (by omega) dX6_addWagons_40 ?_
  have g1 : nw ((65 + 5 * k) + 0) ≤ M := hB.j (by omega) (by omega)
  refine z_iload_n C dX6_addWagons_41 2 rfl ?_
  refine zn_iadd C dX6_addWagons_42 ?_
  refine z_bipush (v := nI 12) C dX6_addWagons_43 (by decide) ?_
  refine zn_icmp_le C 54 dX6_addWagons_45 (by decide) (by omega) (by omega) (fun h2 => ?_) (fun h3 => ?_)
  · refine z_aload_n C dX6_addWagons_54 0 rfl ?_
    refine zm_call C (mX6_remembers l D κ Ad _ _ _ _ _ od _ _ h (by omega)) gX6_addWagons_X6_remembers rfl rfl rfl hdX6_remembers ⟨Nat.le_of_ble_eq_true rfl, Nat.le_of_ble_eq_true rfl⟩ rfl (Nat.le_of_ble_eq_true rfl) dX6_addWagons_55 ⟨Nat.zero_le _, Nat.zero_le _⟩ ?_
    refine z_aload_n C dX6_addWagons_58 0 rfl ?_
    refine zm_get_now C hin k13 dX6_addWagons_59 ?_
    refine z_iload_n C dX6_addWagons_62 1 rfl ?_
    refine zs_call C (mX6_t l D κ k) gX6_addWagons_X6_t rfl rfl rfl hdX6_t ⟨Nat.le_of_ble_eq_true rfl, Nat.le_of_ble_eq_true rfl⟩ rfl (Nat.le_of_ble_eq_true rfl) dX6_addWagons_63 ⟨Nat.zero_le _, Nat.zero_le _⟩ ?_
    refine z_iconst (v := nI 0) C dX6_addWagons_66 (by decide) ?_
    refine zn_iadd C dX6_addWagons_67 ?_
    refine z_dup2 C dX6_addWagons_68 rfl rfl ?_
    refine zm_ald_now C (by omega) dX6_addWagons_69 ?_
    have g4 : nw ((65 + 5 * k) + 0) ≤ M := hB.j (by omega) (by omega)
    refine z_iload_n C dX6_addWagons_70 2 rfl ?_
    refine zn_iadd C dX6_addWagons_71 ?_
    refine zm_ast_now C (by omega) dX6_addWagons_72 ?_
    refine z_aload_n C dX6_addWagons_73 0 rfl ?_
    refine zm_get_now C hin k13 dX6_addWagons_74 ?_
    refine z_iconst (v := nI 4) C dX6_addWagons_77 (by decide) ?_
    refine z_dup2 C dX6_addWagons_78 rfl rfl ?_
    refine zm_ald_now C (by omega) dX6_addWagons_79 ?_
    rw [show (upN nw ((65 + 5 * k) + 0) ((nw ((65 + 5 * k) + 0)) + n)) 4 = nw 4 from by rw [upN_n (by omega)]]
    refine z_iload_n C dX6_addWagons_80 2 rfl ?_
    refine zn_iadd C dX6_addWagons_81 ?_
    refine zm_ast_now C (by omega) dX6_addWagons_82 ?_
    refine z_aload_n C dX6_addWagons_83 0 rfl ?_
    refine z_aload_n C dX6_addWagons_84 0 rfl ?_
    refine zm_get_now C hin k13 dX6_addWagons_85 ?_
    refine z_iload_n C dX6_addWagons_88 1 rfl ?_
    refine zs_call C (mX6_t l D κ k) gX6_addWagons_X6_t rfl rfl rfl hdX6_t ⟨Nat.le_of_ble_eq_true rfl, Nat.le_of_ble_eq_true rfl⟩ rfl (Nat.le_of_ble_eq_true rfl) dX6_addWagons_89 ⟨Nat.zero_le _, Nat.zero_le _⟩ ?_
    refine z_iconst (v := nI 0) C dX6_addWagons_92 (by decide) ?_
    refine zn_iadd C dX6_addWagons_93 ?_
    refine zm_ald_now C (by omega) dX6_addWagons_94 ?_
    rw [show (upN (upN nw ((65 + 5 * k) + 0) ((nw ((65 + 5 * k) + 0)) + n)) 4 ((nw 4) + n)) ((65 + 5 * k) + 0) = nw (65 + 5 * k + 0) + n from by rw [upN_n (by omega), upN_s]]
    refine zm_call C (mX6_told l D κ Ad _ _ _ _ _ _ _ _ (nI (nw (65 + 5 * k + 0) + n))) gX6_addWagons_X6_told rfl rfl rfl hdX6_told ⟨Nat.le_of_ble_eq_true rfl, Nat.le_of_ble_eq_true rfl⟩ rfl (Nat.le_of_ble_eq_true rfl) dX6_addWagons_95 ⟨Nat.zero_le _, Nat.zero_le _⟩ ?_
    exact z_iret C hr hk () (rfl) trivial (List.Perm.of_eq rfl) dX6_addWagons_98 (Nat.le_refl _) (Nat.le_refl _)
  · exact absurd hl (by omega)
set_option maxRecDepth 100000 in
set_option maxHeartbeats 4000000 in
theorem mX6_setTopSpeed_no (l : Launch) (D : va_G) (κ : Nat → ClassId) (Ad : Nat → Nat) (eo : Int32) (ip : Nat → Int32) (v nw aw od sv ot : Nat → Nat) (M : Nat) (x : Int32) (y : Int32) (hB : Bd M nw) (hx : isB (nw 2) x = false) : mM l yX6_setTopSpeed wsX6_setTopSpeed { frames := 2, cells := 0, slots := 0, locals := 43 } D κ Ad [.int (x), .int (y)] eo ip v nw aw od sv ot (some (.int (nI 0))) eo ip (upN v 1 1) nw aw od sv ot := by
  refine zM_of (cc := cX6_setTopSpeed) (maxL := 4) (rt := (some .int)) [(0, .ref (Ad 0)), (1, .int (x)), (2, .int (y))] (by decide +kernel) rfl (Nat.le_of_ble_eq_true rfl) rfl ?_
  intro p e s m args below meth c A C hr hk hnm
  have C : zC p s m args c cX6_setTopSpeed 4 wsX6_setTopSpeed RX6 D (zTy κ) A := C
  have hin : ∀ w ∈ wsX60, w ∈ wsX6_setTopSpeed := fun w h => List.mem_cons_of_mem _ (List.mem_append_right _ h)
  have k13 : Cond.fieldLink RX6 13 "PeatRailwayModel" "now" "[I" ∈ wsX6_setTopSpeed := by decide +kernel
  obtain ⟨hM1, hM2, ht0, hnb, hnt, hj, hp⟩ := id hB
  refine z_aload_n C dX6_setTopSpeed_0 0 rfl ?_
  refine z_iload_n C dX6_setTopSpeed_1 1 rfl ?_
  refine zm_call C (mX6_isTrain_no l D κ Ad _ _ _ _ _ _ _ _ M x hB hx) gX6_setTopSpeed_X6_isTrain rfl rfl rfl hdX6_isTrain ⟨Nat.le_of_ble_eq_true rfl, Nat.le_of_ble_eq_true rfl⟩ rfl (Nat.le_of_ble_eq_true rfl) dX6_setTopSpeed_2 ⟨Nat.zero_le _, Nat.zero_le _⟩ ?_
  refine zb_if_ne C 14 dX6_setTopSpeed_5 (by decide) (fun q => absurd q (by decide)) (fun _ => ?_)
  refine z_aload_n C dX6_setTopSpeed_8 0 rfl ?_
  refine z_iconst (v := nI 1) C dX6_setTopSpeed_9 (by decide) ?_
  refine zm_call C (mX6_refuse l D κ Ad _ _ _ _ _ _ _ _ 1) gX6_setTopSpeed_X6_refuse rfl rfl rfl hdX6_refuse ⟨Nat.le_of_ble_eq_true rfl, Nat.le_of_ble_eq_true rfl⟩ rfl (Nat.le_of_ble_eq_true rfl) dX6_setTopSpeed_10 ⟨Nat.zero_le _, Nat.zero_le _⟩ ?_
  exact z_iret C hr hk () (rfl) trivial (List.Perm.of_eq rfl) dX6_setTopSpeed_13 (Nat.le_refl _) (Nat.le_refl _)
theorem hdX6_setTopSpeed : yX6_setTopSpeed.cls = RX6 ∧ yX6_setTopSpeed.cls ≠ "java/lang/invoke/MethodHandle" ∧ yX6_setTopSpeed.cls ≠ "java/lang/invoke/VarHandle" ∧ (parseMethodDescriptor yX6_setTopSpeed.desc).map (fun d => d.parameters.length) = some 2 := by decide +kernel
set_option maxRecDepth 100000 in
set_option maxHeartbeats 4000000 in
theorem mX6_setTopSpeed_rng (l : Launch) (D : va_G) (κ : Nat → ClassId) (Ad : Nat → Nat) (eo : Int32) (ip : Nat → Int32) (v nw aw od sv ot : Nat → Nat) (M : Nat) (k : Nat) (x : Int32) (hB : Bd M nw) (hk0 : k < nw 2) (hx : inI x (nI 1) (nI 5) = false) : mM l yX6_setTopSpeed wsX6_setTopSpeed { frames := 2, cells := 0, slots := 0, locals := 43 } D κ Ad [.int (nI k), .int (x)] eo ip v nw aw od sv ot (some (.int (nI 0))) eo ip (upN v 1 2) nw aw od sv ot := by
  refine zM_of (cc := cX6_setTopSpeed) (maxL := 4) (rt := (some .int)) [(0, .ref (Ad 0)), (1, .int (nI k)), (2, .int (x))] (by decide +kernel) rfl (Nat.le_of_ble_eq_true rfl) rfl ?_
  intro p e s m args below meth c A C hr hk hnm
  have C : zC p s m args c cX6_setTopSpeed 4 wsX6_setTopSpeed RX6 D (zTy κ) A := C
  have hin : ∀ w ∈ wsX60, w ∈ wsX6_setTopSpeed := fun w h => List.mem_cons_of_mem _ (List.mem_append_right _ h)
  have k13 : Cond.fieldLink RX6 13 "PeatRailwayModel" "now" "[I" ∈ wsX6_setTopSpeed := by decide +kernel
  obtain ⟨hM1, hM2, ht0, hnb, hnt, hj, hp⟩ := id hB
  refine z_aload_n C dX6_setTopSpeed_0 0 rfl ?_
  refine z_iload_n C dX6_setTopSpeed_1 1 rfl ?_
  refine zm_call C (mX6_isTrain_k l D κ Ad _ _ _ _ _ _ _ _ M k hB (by omega)) gX6_setTopSpeed_X6_isTrain rfl rfl rfl hdX6_isTrain ⟨Nat.le_of_ble_eq_true rfl, Nat.le_of_ble_eq_true rfl⟩ rfl (Nat.le_of_ble_eq_true rfl) dX6_setTopSpeed_2 ⟨Nat.zero_le _, Nat.zero_le _⟩ ?_
  refine zb_if_ne C 14 dX6_setTopSpeed_5 (by decide) (fun _ => ?_) (fun q => absurd q (by decide))
  refine z_iload_n C dX6_setTopSpeed_14 2 rfl ?_
  refine z_iconst (v := nI 1) C dX6_setTopSpeed_15 (by decide) ?_
  refine z_iconst (v := nI 5) C dX6_setTopSpeed_16 (by decide) ?_
  refine zs_call C (mX6_in_no l D κ (x) (nI 1) (nI 5) hx) gX6_setTopSpeed_X6_in rfl rfl rfl hdX6_in ⟨Nat.le_of_ble_eq_true rfl, Nat.le_of_ble_eq_true rfl⟩ rfl (Nat.le_of_ble_eq_true rfl) dX6_setTopSpeed_17 ⟨Nat.zero_le _, Nat.zero_le _⟩ ?_
  refine zb_if_ne C 29 dX6_setTopSpeed_20 (by decide) (fun q => absurd q (by decide)) (fun _ => ?_)
  refine z_aload_n C dX6_setTopSpeed_23 0 rfl ?_
  refine z_iconst (v := nI 2) C dX6_setTopSpeed_24 (by decide) ?_
  refine zm_call C (mX6_refuse l D κ Ad _ _ _ _ _ _ _ _ 2) gX6_setTopSpeed_X6_refuse rfl rfl rfl hdX6_refuse ⟨Nat.le_of_ble_eq_true rfl, Nat.le_of_ble_eq_true rfl⟩ rfl (Nat.le_of_ble_eq_true rfl) dX6_setTopSpeed_25 ⟨Nat.zero_le _, Nat.zero_le _⟩ ?_
  exact z_iret C hr hk () (rfl) trivial (List.Perm.of_eq rfl) dX6_setTopSpeed_28 (Nat.le_refl _) (Nat.le_refl _)
set_option maxRecDepth 100000 in
set_option maxHeartbeats 4000000 in
theorem mX6_setTopSpeed_ok (l : Launch) (D : va_G) (κ : Nat → ClassId) (Ad : Nat → Nat) (eo : Int32) (ip : Nat → Int32) (v nw aw od sv ot : Nat → Nat) (M : Nat) (h : Nat → Nat → Nat) (k n : Nat) (hB : Bd M nw) (hv2 : v 5 ≤ 10) (hk0 : k < nw 2) (h1n : 1 ≤ n) (h2n : n ≤ 5) : mM l yX6_setTopSpeed wsX6_setTopSpeed { frames := 2, cells := 0, slots := 0, locals := 43 } D κ Ad [.int (nI k), .int (nI n)] eo ip v nw aw (hiF h) sv ot (some (.int (nI (nw (65 + 5 * k + 1))))) eo ip (upN (upN v 5 (rmN (v 5))) 1 0) (upN nw (65 + 5 * k + 1) n) aw (hiF (rmH h (v 5) nw)) sv ot := by
  refine zM_of (cc := cX6_setTopSpeed) (maxL := 4) (rt := (some .int)) [(0, .ref (Ad 0)), (1, .int (nI k)), (2, .int (nI n))] (by decide +kernel) rfl (Nat.le_of_ble_eq_true rfl) rfl ?_
  intro p e s m args below meth c A C hr hk hnm
  have C : zC p s m args c cX6_setTopSpeed 4 wsX6_setTopSpeed RX6 D (zTy κ) A := C
  have hin : ∀ w ∈ wsX60, w ∈ wsX6_setTopSpeed := fun w h => List.mem_cons_of_mem _ (List.mem_append_right _ h)
  have k13 : Cond.fieldLink RX6 13 "PeatRailwayModel" "now" "[I" ∈ wsX6_setTopSpeed := by decide +kernel
  obtain ⟨hM1, hM2, ht0, hnb, hnt, hj, hp⟩ := id hB
  refine z_aload_n C dX6_setTopSpeed_0 0 rfl ?_
  refine z_iload_n C dX6_setTopSpeed_1 1 rfl ?_
  refine zm_call C (mX6_isTrain_k l D κ Ad _ _ _ _ _ _ _ _ M k hB (by omega)) gX6_setTopSpeed_X6_isTrain rfl rfl rfl hdX6_isTrain ⟨Nat.le_of_ble_eq_true rfl, Nat.le_of_ble_eq_true rfl⟩ rfl (Nat.le_of_ble_eq_true rfl) dX6_setTopSpeed_2 ⟨Nat.zero_le _, Nat.zero_le _⟩ ?_
  refine zb_if_ne C 14 dX6_setTopSpeed_5 (by decide) (fun _ => ?_) (fun q => absurd q (by decide))
  refine z_iload_n C dX6_setTopSpeed_14 2 rfl ?_
  refine z_iconst (v := nI 1) C dX6_setTopSpeed_15 (by decide) ?_
  refine z_iconst (v := nI 5) C dX6_setTopSpeed_16 (by decide) ?_
  refine zs_call C (mX6_in_yes l D κ n 1 5 (by omega) (by omega) (by omega)) gX6_setTopSpeed_X6_in rfl rfl rfl hdX6_in ⟨Nat.le_of_ble_eq_true rfl, Nat.le_of_ble_eq_true rfl⟩ rfl (Nat.le_of_ble_eq_true rfl) dX6_setTopSpeed_17 ⟨Nat.zero_le _, Nat.zero_le _⟩ ?_
  refine zb_if_ne C 29 dX6_setTopSpeed_20 (by decide) (fun _ => ?_) (fun q => absurd q (by decide))
  refine z_aload_n C dX6_setTopSpeed_29 0 rfl ?_
  refine zm_call C (mX6_remembers l D κ Ad _ _ _ _ _ od _ _ h (by omega)) gX6_setTopSpeed_X6_remembers rfl rfl rfl hdX6_remembers ⟨Nat.le_of_ble_eq_true rfl, Nat.le_of_ble_eq_true rfl⟩ rfl (Nat.le_of_ble_eq_true rfl) dX6_setTopSpeed_30 ⟨Nat.zero_le _, Nat.zero_le _⟩ ?_
  refine z_aload_n C dX6_setTopSpeed_33 0 rfl ?_
  refine zm_get_now C hin k13 dX6_setTopSpeed_34 ?_
  refine z_iload_n C dX6_setTopSpeed_37 1 rfl ?_
  refine zs_call C (mX6_t l D κ k) gX6_setTopSpeed_X6_t rfl rfl rfl hdX6_t ⟨Nat.le_of_ble_eq_true rfl, Nat.le_of_ble_eq_true rfl⟩ rfl (Nat.le_of_ble_eq_true rfl) dX6_setTopSpeed_38 ⟨Nat.zero_le _, Nat.zero_le _⟩ ?_
  refine z_iconst (v := nI 1) C dX6_setTopSpeed_41 (by decide) ?_
  refine zn_iadd C dX6_setTopSpeed_42 ?_
  refine zm_ald_now C (by omega) dX6_setTopSpeed_43 ?_
  have g1 : nw ((65 + 5 * k) + 1) ≤ M := hB.j (by omega) (by omega)
  refine z_istore_n C [(3, .int (nI (nw ((65 + 5 * k) + 1)))), (0, .ref (Ad 0)), (1, .int (nI k)), (2, .int (nI n))] dX6_setTopSpeed_44 (by decide) rfl ?_
  refine z_aload_n C dX6_setTopSpeed_45 1 rfl ?_
  refine zm_get_now C hin k13 dX6_setTopSpeed_46 ?_
  refine z_iload_n C dX6_setTopSpeed_49 2 rfl ?_
  refine zs_call C (mX6_t l D κ k) gX6_setTopSpeed_X6_t rfl rfl rfl hdX6_t ⟨Nat.le_of_ble_eq_true rfl, Nat.le_of_ble_eq_true rfl⟩ rfl (Nat.le_of_ble_eq_true rfl) dX6_setTopSpeed_50 ⟨Nat.zero_le _, Nat.zero_le _⟩ ?_
  refine z_iconst (v := nI 1) C dX6_setTopSpeed_53 (by decide) ?_
  refine zn_iadd C dX6_setTopSpeed_54 ?_
  refine z_iload_n C dX6_setTopSpeed_55 3 rfl ?_
  refine zm_ast_now C (by omega) dX6_setTopSpeed_56 ?_
  refine z_aload_n C dX6_setTopSpeed_57 1 rfl ?_
  refine z_iload_n C dX6_setTopSpeed_58 0 rfl ?_
  refine zm_call C (mX6_told l D κ Ad _ _ _ _ _ _ _ _ (nI (nw ((65 + 5 * k) + 1)))) gX6_setTopSpeed_X6_told rfl rfl rfl hdX6_told ⟨Nat.le_of_ble_eq_true rfl, Nat.le_of_ble_eq_true rfl⟩ rfl (Nat.le_of_ble_eq_true rfl) dX6_setTopSpeed_59 ⟨Nat.zero_le _, Nat.zero_le _⟩ ?_
  exact z_iret C hr hk () (rfl) trivial (List.Perm.of_eq rfl) dX6_setTopSpeed_62 (Nat.le_refl _) (Nat.le_refl _)
set_option maxRecDepth 100000 in
set_option maxHeartbeats 4000000 in
theorem mX6_restore_no (l : Launch) (D : va_G) (κ : Nat → ClassId) (Ad : Nat → Nat) (eo : Int32) (ip : Nat → Int32) (v nw aw od sv ot : Nat → Nat) (M : Nat) (x : Int32) (hB : Bd M nw) (hx : inI x (nI 0) (nI 1) = false) : mM l yX6_restore wsX6_restore { frames := 2, cells := 0, slots := 0, locals := 42 } D κ Ad [.int (x)] eo ip v nw aw od sv ot (some (.int (nI 0))) eo ip (upN v 1 1) nw aw od sv ot := by
  refine zM_of (cc := cX6_restore) (maxL := 3) (rt := (some .int)) [(0, .ref (Ad 0)), (1, .int (x))] (by decide +kernel) rfl (Nat.le_of_ble_eq_true rfl) rfl ?_
  intro p e s m args below meth c A C hr hk hnm
  have C : zC p s m args c cX6_restore 3 wsX6_restore RX6 D (zTy κ) A := C
  have hin : ∀ w ∈ wsX60, w ∈ wsX6_restore := fun w h => List.mem_cons_of_mem _ (List.mem_append_right _ h)
  have k204 : Cond.fieldLink RX6 204 "PeatRailwayModel" "savedSet" "I" ∈ wsX6_restore := by decide +kernel
  have k13 : Cond.fieldLink RX6 13 "PeatRailwayModel" "now" "[I" ∈ wsX6_restore := by decide +kernel
  have k22 : Cond.fieldLink RX6 22 "PeatRailwayModel" "saved" "[I" ∈ wsX6_restore := by decide +kernel
  obtain ⟨hM1, hM2, ht0, hnb, hnt, hj, hp⟩ := id hB
  refine z_iload_n C dX6_restore_0 1 rfl ?_
  refine z_iconst (v := nI 0) C dX6_restore_1 (by decide) ?_
  refine z_iconst (v := nI 1) C dX6_restore_2 (by decide) ?_
  refine zs_call C (mX6_in_no l D κ (x) (nI 0) (nI 1) hx) gX6_restore_X6_in rfl rfl rfl hdX6_in ⟨Nat.le_of_ble_eq_true rfl, Nat.le_of_ble_eq_true rfl⟩ rfl (Nat.le_of_ble_eq_true rfl) dX6_restore_3 ⟨Nat.zero_le _, Nat.zero_le _⟩ ?_
  refine zb_if_ne C 15 dX6_restore_6 (by decide) (fun q => absurd q (by decide)) (fun _ => ?_)
  refine z_aload_n C dX6_restore_9 0 rfl ?_
  refine z_iconst (v := nI 1) C dX6_restore_10 (by decide) ?_
  refine zm_call C (mX6_refuse l D κ Ad _ _ _ _ _ _ _ _ 1) gX6_restore_X6_refuse rfl rfl rfl hdX6_refuse ⟨Nat.le_of_ble_eq_true rfl, Nat.le_of_ble_eq_true rfl⟩ rfl (Nat.le_of_ble_eq_true rfl) dX6_restore_11 ⟨Nat.zero_le _, Nat.zero_le _⟩ ?_
  exact z_iret C hr hk () (rfl) trivial (List.Perm.of_eq rfl) dX6_restore_14 (Nat.le_refl _) (Nat.le_refl _)
theorem hdX6_restore : yX6_restore.cls = RX6 ∧ yX6_restore.cls ≠ "java/lang/invoke/MethodHandle" ∧ yX6_restore.cls ≠ "java/lang/invoke/VarHandle" ∧ (parseMethodDescriptor yX6_restore.desc).map (fun d => d.parameters.length) = some 1 := by decide +kernel
set_option maxRecDepth 100000 in
set_option maxHeartbeats 4000000 in
theorem mX6_restore_emp (l : Launch) (D : va_G) (κ : Nat → ClassId) (Ad : Nat → Nat) (eo : Int32) (ip : Nat → Int32) (v nw aw od sv ot : Nat → Nat) (M : Nat) (k : Nat) (hB : Bd M nw) (hk0 : k < 2) (hv7 : v 7 < 4) (hbit : v 7 / 2 ^ k % 2 = 0) : mM l yX6_restore wsX6_restore { frames := 2, cells := 0, slots := 0, locals := 42 } D κ Ad [.int (nI k)] eo ip v nw aw od sv ot (some (.int (nI 0))) eo ip (upN v 1 2) nw aw od sv ot := by
  refine zM_of (cc := cX6_restore) (maxL := 3) (rt := (some .int)) [(0, .ref (Ad 0)), (1, .int (nI k))] (by decide +kernel) rfl (Nat.le_of_ble_eq_true rfl) rfl ?_
  intro p e s m args below meth c A C hr hk hnm
  have C : zC p s m args c cX6_restore 3 wsX6_restore RX6 D (zTy κ) A := C
  have hin : ∀ w ∈ wsX60, w ∈ wsX6_restore := fun w h => List.mem_cons_of_mem _ (List.mem_append_right _ h)
  have k204 : Cond.fieldLink RX6 204 "PeatRailwayModel" "savedSet" "I" ∈ wsX6_restore := by decide +kernel
  have k13 : Cond.fieldLink RX6 13 "PeatRailwayModel" "now" "[I" ∈ wsX6_restore := by decide +kernel
  have k22 : Cond.fieldLink RX6 22 "PeatRailwayModel" "saved" "[I" ∈ wsX6_restore := by decide +kernel
  obtain ⟨hM1, hM2, ht0, hnb, hnt, hj, hp⟩ := id hB
  refine z_iload_n C dX6_restore_0 1 rfl ?_
  refine z_iconst (v := nI 0) C dX6_restore_1 (by decide) ?_
  refine z_iconst (v := nI 1) C dX6_restore_2 (by decide) ?_
  refine zs_call C (mX6_in_yes l D κ k 0 1 (by omega) (by omega) (by omega)) gX6_restore_X6_in rfl rfl rfl hdX6_in ⟨Nat.le_of_ble_eq_true rfl, Nat.le_of_ble_eq_true rfl⟩ rfl (Nat.le_of_ble_eq_true rfl) dX6_restore_3 ⟨Nat.zero_le _, Nat.zero_le _⟩ ?_
  refine zb_if_ne C 15 dX6_restore_6 (by decide) (fun _ => ?_) (fun q => absurd q (by decide))
  refine z_aload_n C dX6_restore_15 0 rfl ?_
  refine zm_get_savedSet C hin (x := v 7) k204 dX6_restore_16 rfl ?_
  refine z_iload_n C dX6_restore_19 1 rfl ?_
  refine z_ishr C dX6_restore_20 ?_
  refine z_iconst (v := nI 1) C dX6_restore_21 (by decide) ?_
  refine z_iand C dX6_restore_22 ?_
  rw [svB (v 7) hv7 k hk0]
  have hbt : v 7 / 2 ^ k % 2 < 2 := Nat.mod_lt _ (by decide)
  refine zn_if_ne C 32 dX6_restore_23 (by decide) (by omega) (fun h1 => ?_) (fun h2 => ?_)
  · exact absurd hbit (by omega)
  · refine z_aload_n C dX6_restore_26 0 rfl ?_
    refine z_iconst (v := nI 2) C dX6_restore_27 (by decide) ?_
    refine zm_call C (mX6_refuse l D κ Ad _ _ _ _ _ _ _ _ 2) gX6_restore_X6_refuse rfl rfl rfl hdX6_refuse ⟨Nat.le_of_ble_eq_true rfl, Nat.le_of_ble_eq_true rfl⟩ rfl (Nat.le_of_ble_eq_true rfl) dX6_restore_28 ⟨Nat.zero_le _, Nat.zero_le _⟩ ?_
    exact z_iret C hr hk () (rfl) trivial (List.Perm.of_eq rfl) dX6_restore_31 (Nat.le_refl _) (Nat.le_refl _)
set_option maxRecDepth 100000 in
set_option maxHeartbeats 4000000 in
theorem mX6_restore_ok (l : Launch) (D : va_G) (κ : Nat → ClassId) (Ad : Nat → Nat) (eo : Int32) (ip : Nat → Int32) (v nw aw od sv ot : Nat → Nat) (M : Nat) (h s2 : Nat → Nat → Nat) (k : Nat) (hB : Bd M nw) (hv2 : v 5 ≤ 10) (hk0 : k < 2) (hv7 : v 7 < 4) (hbit : v 7 / 2 ^ k % 2 = 1) : mM l yX6_restore wsX6_restore { frames := 2, cells := 0, slots := 0, locals := 42 } D κ Ad [.int (nI k)] eo ip v nw aw (hiF h) (hiF s2) ot (some (.int (nI (s2 k 0)))) eo ip (upN (upN v 5 (rmN (v 5))) 1 0) (s2 k) aw (hiF (rmH h (v 5) nw)) (hiF s2) ot := by
  refine zM_of (cc := cX6_restore) (maxL := 3) (rt := (some .int)) [(0, .ref (Ad 0)), (1, .int (nI k))] (by decide +kernel) rfl (Nat.le_of_ble_eq_true rfl) rfl ?_
  intro p e s m args below meth c A C hr hk hnm
  have C : zC p s m args c cX6_restore 3 wsX6_restore RX6 D (zTy κ) A := C
  have hin : ∀ w ∈ wsX60, w ∈ wsX6_restore := fun w h => List.mem_cons_of_mem _ (List.mem_append_right _ h)
  have k204 : Cond.fieldLink RX6 204 "PeatRailwayModel" "savedSet" "I" ∈ wsX6_restore := by decide +kernel
  have k13 : Cond.fieldLink RX6 13 "PeatRailwayModel" "now" "[I" ∈ wsX6_restore := by decide +kernel
  have k22 : Cond.fieldLink RX6 22 "PeatRailwayModel" "saved" "[I" ∈ wsX6_restore := by decide +kernel
  obtain ⟨hM1, hM2, ht0, hnb, hnt, hj, hp⟩ := id hB
  refine z_iload_n C dX6_restore_0 1 rfl ?_
  refine z_iconst (v := nI 0) C dX6_restore_1 (by decide) ?_
  refine z_iconst (v := nI 1) C dX6_restore_2 (by decide) ?_
  refine zs_call C (mX6_in_yes l D κ k 0 1 (by omega) (by omega) (by omega)) gX6_restore_X6_in rfl rfl rfl hdX6_in ⟨Nat.le_of_ble_eq_true rfl, Nat.le_of_ble_eq_true rfl⟩ rfl (Nat.le_of_ble_eq_true rfl) dX6_restore_3 ⟨Nat.zero_le _, Nat.zero_le _⟩ ?_
  refine zb_if_ne C 15 dX6_restore_6 (by decide) (fun _ => ?_) (fun q => absurd q (by decide))
  refine z_aload_n C dX6_restore_15 0 rfl ?_
  refine zm_get_savedSet C hin (x := v 7) k204 dX6_restore_16 rfl ?_
  refine z_iload_n C dX6_restore_19 1 rfl ?_
  refine z_ishr C dX6_restore_20 ?_
  refine z_iconst (v := nI 1) C dX6_restore_21 (by decide) ?_
  refine z_iand C dX6_restore_22 ?_
  rw [svB (v 7) hv7 k hk0]
  have hbt : v 7 / 2 ^ k % 2 < 2 := Nat.mod_lt _ (by decide)
  refine zn_if_ne C 32 dX6_restore_23 (by decide) (by omega) (fun h1 => ?_) (fun h2 => ?_)
  · refine z_aload_n C dX6_restore_32 0 rfl ?_
    refine zm_call C (mX6_remembers l D κ Ad _ _ _ _ _ od _ _ h (by omega)) gX6_restore_X6_remembers rfl rfl rfl hdX6_remembers ⟨Nat.le_of_ble_eq_true rfl, Nat.le_of_ble_eq_true rfl⟩ rfl (Nat.le_of_ble_eq_true rfl) dX6_restore_33 ⟨Nat.zero_le _, Nat.zero_le _⟩ ?_
    refine z_iconst (v := nI 0) C dX6_restore_36 (by decide) ?_
    refine z_istore_n C [(2, .int (nI 0)), (0, .ref (Ad 0)), (1, .int (nI k))] dX6_restore_37 (by decide) rfl ?_
    refine z_lv [1, 2, 0] rfl ?_
    refine z_loop (σ := Nat × (Nat → Nat)) (fun x => MW κ Ad eo ip (upN v 5 (rmN (v 5))) x.2 aw (hiF (rmH h (v 5) nw)) (hiF s2) ot) (fun x => [(0, .ref (Ad 0)), (1, .int (nI k)), (2, .int (nI x.1))]) (fun x => x.1 ≤ 140 ∧ ∀ j, x.2 j = if j < x.1 then hiF s2 (k * 140 + j) else nw j) (fun x => 140 - x.1) ((0, nw)) (⟨Nat.zero_le _, fun j => by simp⟩) rfl rfl ?_
    rintro ⟨i, τ⟩ hI38 ih38
    dsimp only at hI38 ih38 ⊢
    obtain ⟨hk1, hk2⟩ := hI38
    refine z_iload_n C dX6_restore_38 2 rfl ?_
    refine z_sipush (v := nI 140) C dX6_restore_39 (by decide) ?_
    refine zn_icmp_ge C 69 dX6_restore_42 (by decide) (by omega) (by omega) (fun h3 => ?_) (fun h4 => ?_)
    · refine zr_now (s2 k) (fun j hj => by rw [hk2 j, if_pos (by omega)]; exact hi_at s2 hj) ?_
      refine z_aload_n C dX6_restore_69 0 rfl ?_
      refine z_aload_n C dX6_restore_70 0 rfl ?_
      refine zm_get_now C hin k13 dX6_restore_71 ?_
      refine z_iconst (v := nI 0) C dX6_restore_74 (by decide) ?_
      refine zm_ald_now C (by omega) dX6_restore_75 ?_
      refine zm_call C (mX6_told l D κ Ad _ _ _ _ _ _ _ _ (nI ((s2 k) 0))) gX6_restore_X6_told rfl rfl rfl hdX6_told ⟨Nat.le_of_ble_eq_true rfl, Nat.le_of_ble_eq_true rfl⟩ rfl (Nat.le_of_ble_eq_true rfl) dX6_restore_76 ⟨Nat.zero_le _, Nat.zero_le _⟩ ?_
      exact z_iret C hr hk () (rfl) trivial (List.Perm.of_eq rfl) dX6_restore_79 (Nat.le_refl _) (Nat.le_refl _)
    · refine z_aload_n C dX6_restore_45 0 rfl ?_
      refine zm_get_now C hin k13 dX6_restore_46 ?_
      refine z_iload_n C dX6_restore_49 2 rfl ?_
      refine z_aload_n C dX6_restore_50 0 rfl ?_
      refine zm_get_saved C hin k22 dX6_restore_51 ?_
      refine z_iload_n C dX6_restore_54 1 rfl ?_
      refine z_sipush (v := nI 140) C dX6_restore_55 (by decide) ?_
      refine zn_imul C dX6_restore_58 ?_
      refine z_iload_n C dX6_restore_59 2 rfl ?_
      refine zn_iadd C dX6_restore_60 ?_
      refine zm_ald_saved C (by omega) dX6_restore_61 ?_
      refine zm_ast_now C (by omega) dX6_restore_62 ?_
      refine zn_iinc (n := 1) C [(2, .int (nI (i + 1))), (0, .ref (Ad 0)), (1, .int (nI k))] dX6_restore_63 2 rfl (by decide) rfl ?_
      refine z_goto (tgt := 38) C dX6_restore_66 (by decide) ?_
      refine z_lv [1, 2, 0] rfl ?_
      exact ih38 (i + 1, upN τ i ((hiF s2) ((k * 140) + i))) ⟨by dsimp only; omega, fun j => by dsimp only; exact cp_step (src := fun j => hiF s2 (k * 140 + j)) hk2 rfl j⟩ (by dsimp only; omega)
  · exact absurd hbit (by omega)
set_option maxRecDepth 100000 in
set_option maxHeartbeats 4000000 in
theorem mX6_undo_no (l : Launch) (D : va_G) (κ : Nat → ClassId) (Ad : Nat → Nat) (eo : Int32) (ip : Nat → Int32) (v nw aw od sv ot : Nat → Nat) (M : Nat)  (hB : Bd M nw) (hv2 : v 5 = 0) : mM l yX6_undo wsX6_undo { frames := 1, cells := 0, slots := 0, locals := 21 } D κ Ad [] eo ip v nw aw od sv ot (some (.int (nI 0))) eo ip (upN v 1 1) nw aw od sv ot := by
  refine zM_of (cc := cX6_undo) (maxL := 2) (rt := (some .int)) [(0, .ref (Ad 0))] (by decide +kernel) rfl (Nat.le_of_ble_eq_true rfl) rfl ?_
  intro p e s m args below meth c A C hr hk hnm
  have C : zC p s m args c cX6_undo 2 wsX6_undo RX6 D (zTy κ) A := C
  have hin : ∀ w ∈ wsX60, w ∈ wsX6_undo := fun w h => List.mem_cons_of_mem _ (List.mem_append_right _ h)
  have k95 : Cond.fieldLink RX6 95 "PeatRailwayModel" "oldMany" "I" ∈ wsX6_undo := by decide +kernel
  have k13 : Cond.fieldLink RX6 13 "PeatRailwayModel" "now" "[I" ∈ wsX6_undo := by decide +kernel
  have k19 : Cond.fieldLink RX6 19 "PeatRailwayModel" "old" "[I" ∈ wsX6_undo := by decide +kernel
  obtain ⟨hM1, hM2, ht0, hnb, hnt, hj, hp⟩ := id hB
  refine z_aload_n C dX6_undo_0 0 rfl ?_
  refine zm_get_oldMany C hin (x := v 5) k95 dX6_undo_1 rfl ?_
  refine zn_if_ne C 13 dX6_undo_4 (by decide) (by omega) (fun h1 => ?_) (fun h2 => ?_)
  · exact absurd hv2 (by omega)
  · refine z_aload_n C dX6_undo_7 0 rfl ?_
    refine z_iconst (v := nI 1) C dX6_undo_8 (by decide) ?_
    refine zm_call C (mX6_refuse l D κ Ad _ _ _ _ _ _ _ _ 1) gX6_undo_X6_refuse rfl rfl rfl hdX6_refuse ⟨Nat.le_of_ble_eq_true rfl, Nat.le_of_ble_eq_true rfl⟩ rfl (Nat.le_of_ble_eq_true rfl) dX6_undo_9 ⟨Nat.zero_le _, Nat.zero_le _⟩ ?_
    exact z_iret C hr hk () (rfl) trivial (List.Perm.of_eq rfl) dX6_undo_12 (Nat.le_refl _) (Nat.le_refl _)
theorem hdX6_undo : yX6_undo.cls = RX6 ∧ yX6_undo.cls ≠ "java/lang/invoke/MethodHandle" ∧ yX6_undo.cls ≠ "java/lang/invoke/VarHandle" ∧ (parseMethodDescriptor yX6_undo.desc).map (fun d => d.parameters.length) = some 0 := by decide +kernel
set_option maxRecDepth 100000 in
set_option maxHeartbeats 4000000 in
theorem mX6_undo_ok (l : Launch) (D : va_G) (κ : Nat → ClassId) (Ad : Nat → Nat) (eo : Int32) (ip : Nat → Int32) (v nw aw od sv ot : Nat → Nat) (M : Nat) (h : Nat → Nat → Nat) (hB : Bd M nw) (hv1 : 0 < v 5) (hv2 : v 5 ≤ 10) : mM l yX6_undo wsX6_undo { frames := 1, cells := 0, slots := 0, locals := 21 } D κ Ad [] eo ip v nw aw (hiF h) sv ot (some (.int (nI (v 5 - 1)))) eo ip (upN (upN v 5 (v 5 - 1)) 1 0) (h (v 5 - 1)) aw (hiF h) sv ot := by
  refine zM_of (cc := cX6_undo) (maxL := 2) (rt := (some .int)) [(0, .ref (Ad 0))] (by decide +kernel) rfl (Nat.le_of_ble_eq_true rfl) rfl ?_
  intro p e s m args below meth c A C hr hk hnm
  have C : zC p s m args c cX6_undo 2 wsX6_undo RX6 D (zTy κ) A := C
  have hin : ∀ w ∈ wsX60, w ∈ wsX6_undo := fun w h => List.mem_cons_of_mem _ (List.mem_append_right _ h)
  have k95 : Cond.fieldLink RX6 95 "PeatRailwayModel" "oldMany" "I" ∈ wsX6_undo := by decide +kernel
  have k13 : Cond.fieldLink RX6 13 "PeatRailwayModel" "now" "[I" ∈ wsX6_undo := by decide +kernel
  have k19 : Cond.fieldLink RX6 19 "PeatRailwayModel" "old" "[I" ∈ wsX6_undo := by decide +kernel
  obtain ⟨hM1, hM2, ht0, hnb, hnt, hj, hp⟩ := id hB
  refine z_aload_n C dX6_undo_0 0 rfl ?_
  refine zm_get_oldMany C hin (x := v 5) k95 dX6_undo_1 rfl ?_
  refine zn_if_ne C 13 dX6_undo_4 (by decide) (by omega) (fun h1 => ?_) (fun h2 => ?_)
  · refine z_aload_n C dX6_undo_13 0 rfl ?_
    refine z_dup C dX6_undo_14 rfl ?_
    refine zm_get_oldMany C hin (x := v 5) k95 dX6_undo_15 rfl ?_
    refine z_iconst (v := nI 1) C dX6_undo_18 (by decide) ?_
    refine zn_isub C dX6_undo_19 (by omega) ?_
    refine zm_put_oldMany C hin k95 dX6_undo_20 ?_
    refine z_iconst (v := nI 0) C dX6_undo_23 (by decide) ?_
    refine z_istore_n C [(1, .int (nI 0)), (0, .ref (Ad 0))] dX6_undo_24 (by decide) rfl ?_
    refine z_lv [1, 0] rfl ?_
    refine z_loop (σ := Nat × (Nat → Nat)) (fun x => MW κ Ad eo ip (upN v 5 ((v 5) - 1)) x.2 aw (hiF h) sv ot) (fun x => [(0, .ref (Ad 0)), (1, .int (nI x.1))]) (fun x => x.1 ≤ 140 ∧ ∀ j, x.2 j = if j < x.1 then hiF h ((v 5 - 1) * 140 + j) else nw j) (fun x => 140 - x.1) ((0, nw)) (⟨Nat.zero_le _, fun j => by simp⟩) rfl rfl ?_
    rintro ⟨i, τ⟩ hI25 ih25
    dsimp only at hI25 ih25 ⊢
    obtain ⟨hk1, hk2⟩ := hI25
    refine z_iload_n C dX6_undo_25 1 rfl ?_
    refine z_sipush (v := nI 140) C dX6_undo_26 (by decide) ?_
    refine zn_icmp_ge C 59 dX6_undo_29 (by decide) (by omega) (by omega) (fun h3 => ?_) (fun h4 => ?_)
    · refine zr_now (h (v 5 - 1)) (fun j hj => by rw [hk2 j, if_pos (by omega)]; exact hi_at h hj) ?_
      refine z_aload_n C dX6_undo_59 0 rfl ?_
      refine z_aload_n C dX6_undo_60 0 rfl ?_
      refine zm_get_oldMany C hin (x := (v 5) - 1) k95 dX6_undo_61 rfl ?_
      refine zm_call C (mX6_told l D κ Ad _ _ _ _ _ _ _ _ (nI ((v 5) - 1))) gX6_undo_X6_told rfl rfl rfl hdX6_told ⟨Nat.le_of_ble_eq_true rfl, Nat.le_of_ble_eq_true rfl⟩ rfl (Nat.le_of_ble_eq_true rfl) dX6_undo_64 ⟨Nat.zero_le _, Nat.zero_le _⟩ ?_
      exact z_iret C hr hk () (rfl) trivial (List.Perm.of_eq rfl) dX6_undo_67 (Nat.le_refl _) (Nat.le_refl _)
    · refine z_aload_n C dX6_undo_32 0 rfl ?_
      refine zm_get_now C hin k13 dX6_undo_33 ?_
      refine z_iload_n C dX6_undo_36 1 rfl ?_
      refine z_aload_n C dX6_undo_37 0 rfl ?_
      refine zm_get_old C hin k19 dX6_undo_38 ?_
      refine z_aload_n C dX6_undo_41 0 rfl ?_
      refine zm_get_oldMany C hin (x := (v 5) - 1) k95 dX6_undo_42 rfl ?_
      refine z_sipush (v := nI 140) C dX6_undo_45 (by decide) ?_
      refine zn_imul C dX6_undo_48 ?_
      refine z_iload_n C dX6_undo_49 1 rfl ?_
      refine zn_iadd C dX6_undo_50 ?_
      refine zm_ald_old C (by omega) dX6_undo_51 ?_
      refine zm_ast_now C (by omega) dX6_undo_52 ?_
      refine zn_iinc (n := 1) C [(1, .int (nI (i + 1))), (0, .ref (Ad 0))] dX6_undo_53 1 rfl (by decide) rfl ?_
      refine z_goto (tgt := 25) C dX6_undo_56 (by decide) ?_
      refine z_lv [1, 0] rfl ?_
      exact ih25 (i + 1, upN τ i ((hiF h) ((((v 5) - 1) * 140) + i))) ⟨by dsimp only; omega, fun j => by dsimp only; exact cp_step (src := fun j => hiF h ((v 5 - 1) * 140 + j)) hk2 rfl j⟩ (by dsimp only; omega)
  · exact absurd hv1 (by omega)
set_option maxRecDepth 100000 in
set_option maxHeartbeats 4000000 in
theorem mX6_save_no (l : Launch) (D : va_G) (κ : Nat → ClassId) (Ad : Nat → Nat) (eo : Int32) (ip : Nat → Int32) (v nw aw od sv ot : Nat → Nat) (M : Nat) (x : Int32) (hB : Bd M nw) (hx : inI x (nI 0) (nI 1) = false) : mM l yX6_save wsX6_save { frames := 1, cells := 0, slots := 0, locals := 22 } D κ Ad [.int (x)] eo ip v nw aw od sv ot (some (.int (nI 0))) eo ip (upN v 1 1) nw aw od sv ot := by
  refine zM_of (cc := cX6_save) (maxL := 3) (rt := (some .int)) [(0, .ref (Ad 0)), (1, .int (x))] (by decide +kernel) rfl (Nat.le_of_ble_eq_true rfl) rfl ?_
  intro p e s m args below meth c A C hr hk hnm
  have C : zC p s m args c cX6_save 3 wsX6_save RX6 D (zTy κ) A := C
  have hin : ∀ w ∈ wsX60, w ∈ wsX6_save := fun w h => List.mem_cons_of_mem _ (List.mem_append_right _ h)
  have k22 : Cond.fieldLink RX6 22 "PeatRailwayModel" "saved" "[I" ∈ wsX6_save := by decide +kernel
  have k13 : Cond.fieldLink RX6 13 "PeatRailwayModel" "now" "[I" ∈ wsX6_save := by decide +kernel
  have k204 : Cond.fieldLink RX6 204 "PeatRailwayModel" "savedSet" "I" ∈ wsX6_save := by decide +kernel
  obtain ⟨hM1, hM2, ht0, hnb, hnt, hj, hp⟩ := id hB
  refine z_iload_n C dX6_save_0 1 rfl ?_
  refine z_iconst (v := nI 0) C dX6_save_1 (by decide) ?_
  refine z_iconst (v := nI 1) C dX6_save_2 (by decide) ?_
  refine zs_call C (mX6_in_no l D κ (x) (nI 0) (nI 1) hx) gX6_save_X6_in rfl rfl rfl hdX6_in ⟨Nat.le_of_ble_eq_true rfl, Nat.le_of_ble_eq_true rfl⟩ rfl (Nat.le_of_ble_eq_true rfl) dX6_save_3 ⟨Nat.zero_le _, Nat.zero_le _⟩ ?_
  refine zb_if_ne C 15 dX6_save_6 (by decide) (fun q => absurd q (by decide)) (fun _ => ?_)
  refine z_aload_n C dX6_save_9 0 rfl ?_
  refine z_iconst (v := nI 1) C dX6_save_10 (by decide) ?_
  refine zm_call C (mX6_refuse l D κ Ad _ _ _ _ _ _ _ _ 1) gX6_save_X6_refuse rfl rfl rfl hdX6_refuse ⟨Nat.le_of_ble_eq_true rfl, Nat.le_of_ble_eq_true rfl⟩ rfl (Nat.le_of_ble_eq_true rfl) dX6_save_11 ⟨Nat.zero_le _, Nat.zero_le _⟩ ?_
  exact z_iret C hr hk () (rfl) trivial (List.Perm.of_eq rfl) dX6_save_14 (Nat.le_refl _) (Nat.le_refl _)
theorem hdX6_save : yX6_save.cls = RX6 ∧ yX6_save.cls ≠ "java/lang/invoke/MethodHandle" ∧ yX6_save.cls ≠ "java/lang/invoke/VarHandle" ∧ (parseMethodDescriptor yX6_save.desc).map (fun d => d.parameters.length) = some 1 := by decide +kernel
set_option maxRecDepth 100000 in
set_option maxHeartbeats 4000000 in
theorem mX6_save_ok (l : Launch) (D : va_G) (κ : Nat → ClassId) (Ad : Nat → Nat) (eo : Int32) (ip : Nat → Int32) (v nw aw od sv ot : Nat → Nat) (M : Nat) (s2 : Nat → Nat → Nat) (k : Nat) (hB : Bd M nw) (hk0 : k < 2) (hv7 : v 7 < 4) : mM l yX6_save wsX6_save { frames := 1, cells := 0, slots := 0, locals := 22 } D κ Ad [.int (nI k)] eo ip v nw aw od (hiF s2) ot (some (.int (nI (nw 0)))) eo ip (upN (upN v 7 (svO (v 7) k)) 1 0) nw aw od (hiF (svH s2 k nw)) ot := by
  refine zM_of (cc := cX6_save) (maxL := 3) (rt := (some .int)) [(0, .ref (Ad 0)), (1, .int (nI k))] (by decide +kernel) rfl (Nat.le_of_ble_eq_true rfl) rfl ?_
  intro p e s m args below meth c A C hr hk hnm
  have C : zC p s m args c cX6_save 3 wsX6_save RX6 D (zTy κ) A := C
  have hin : ∀ w ∈ wsX60, w ∈ wsX6_save := fun w h => List.mem_cons_of_mem _ (List.mem_append_right _ h)
  have k22 : Cond.fieldLink RX6 22 "PeatRailwayModel" "saved" "[I" ∈ wsX6_save := by decide +kernel
  have k13 : Cond.fieldLink RX6 13 "PeatRailwayModel" "now" "[I" ∈ wsX6_save := by decide +kernel
  have k204 : Cond.fieldLink RX6 204 "PeatRailwayModel" "savedSet" "I" ∈ wsX6_save := by decide +kernel
  obtain ⟨hM1, hM2, ht0, hnb, hnt, hj, hp⟩ := id hB
  refine z_iload_n C dX6_save_0 1 rfl ?_
  refine z_iconst (v := nI 0) C dX6_save_1 (by decide) ?_
  refine z_iconst (v := nI 1) C dX6_save_2 (by decide) ?_
  refine zs_call C (mX6_in_yes l D κ k 0 1 (by omega) (by omega) (by omega)) gX6_save_X6_in rfl rfl rfl hdX6_in ⟨Nat.le_of_ble_eq_true rfl, Nat.le_of_ble_eq_true rfl⟩ rfl (Nat.le_of_ble_eq_true rfl) dX6_save_3 ⟨Nat.zero_le _, Nat.zero_le _⟩ ?_
  refine zb_if_ne C 15 dX6_save_6 (by decide) (fun _ => ?_) (fun q => absurd q (by decide))
  refine z_iconst (v := nI 0) C dX6_save_15 (by decide) ?_
  refine z_istore_n C [(2, .int (nI 0)), (0, .ref (Ad 0)), (1, .int (nI k))] dX6_save_16 (by decide) rfl ?_
  refine z_lv [1, 2, 0] rfl ?_
  refine z_loop (σ := Nat × (Nat → Nat)) (fun x => MW κ Ad eo ip v nw aw od x.2 ot) (fun x => [(0, .ref (Ad 0)), (1, .int (nI k)), (2, .int (nI x.1))]) (fun x => x.1 ≤ 140 ∧ ∀ j, x.2 j = if k * 140 ≤ j ∧ j < k * 140 + x.1 then nw (j - k * 140) else hiF s2 j) (fun x => 140 - x.1) ((0, hiF s2)) (⟨Nat.zero_le _, fun j => by dsimp only; rw [if_neg (by omega)]⟩) rfl rfl ?_
  rintro ⟨i, τ⟩ hI17 ih17
  dsimp only at hI17 ih17 ⊢
  obtain ⟨hk1, hk2⟩ := hI17
  refine z_iload_n C dX6_save_17 2 rfl ?_
  refine z_sipush (v := nI 140) C dX6_save_18 (by decide) ?_
  refine zn_icmp_ge C 48 dX6_save_21 (by decide) (by omega) (by omega) (fun h1 => ?_) (fun h2 => ?_)
  · have hi9 : i = 140 := by omega
    subst hi9
    refine zr_saved (hiF (svH s2 k nw)) (sv_end hk2) ?_
    refine z_aload_n C dX6_save_48 0 rfl ?_
    refine z_dup C dX6_save_49 rfl ?_
    refine zm_get_savedSet C hin (x := v 7) k204 dX6_save_50 rfl ?_
    refine z_iconst (v := nI 1) C dX6_save_53 (by decide) ?_
    refine z_iload_n C dX6_save_54 1 rfl ?_
    refine z_ishl C dX6_save_55 ?_
    refine z_ior C dX6_save_56 ?_
    rw [svO_eq (v 7) hv7 k hk0]
    refine zm_put_savedSet C hin k204 dX6_save_57 ?_
    refine z_aload_n C dX6_save_60 0 rfl ?_
    refine z_aload_n C dX6_save_61 0 rfl ?_
    refine zm_get_now C hin k13 dX6_save_62 ?_
    refine z_iconst (v := nI 0) C dX6_save_65 (by decide) ?_
    refine zm_ald_now C (by omega) dX6_save_66 ?_
    refine zm_call C (mX6_told l D κ Ad _ _ _ _ _ _ _ _ (nI (nw 0))) gX6_save_X6_told rfl rfl rfl hdX6_told ⟨Nat.le_of_ble_eq_true rfl, Nat.le_of_ble_eq_true rfl⟩ rfl (Nat.le_of_ble_eq_true rfl) dX6_save_67 ⟨Nat.zero_le _, Nat.zero_le _⟩ ?_
    exact z_iret C hr hk () (rfl) trivial (List.Perm.of_eq rfl) dX6_save_70 (Nat.le_refl _) (Nat.le_refl _)
  · refine z_aload_n C dX6_save_24 0 rfl ?_
    refine zm_get_saved C hin k22 dX6_save_25 ?_
    refine z_iload_n C dX6_save_28 1 rfl ?_
    refine z_sipush (v := nI 140) C dX6_save_29 (by decide) ?_
    refine zn_imul C dX6_save_32 ?_
    refine z_iload_n C dX6_save_33 2 rfl ?_
    refine zn_iadd C dX6_save_34 ?_
    refine z_aload_n C dX6_save_35 0 rfl ?_
    refine zm_get_now C hin k13 dX6_save_36 ?_
    refine z_iload_n C dX6_save_39 2 rfl ?_
    refine zm_ald_now C (by omega) dX6_save_40 ?_
    refine zm_ast_saved C (by omega) dX6_save_41 ?_
    refine zn_iinc (n := 1) C [(2, .int (nI (i + 1))), (0, .ref (Ad 0)), (1, .int (nI k))] dX6_save_42 2 rfl (by decide) rfl ?_
    refine z_goto (tgt := 17) C dX6_save_45 (by decide) ?_
    refine z_lv [1, 2, 0] rfl ?_
    exact ih17 (i + 1, upN τ ((k * 140) + i) (nw i)) ⟨by dsimp only; omega, fun j => by dsimp only; exact cp_off hk2 rfl rfl j⟩ (by dsimp only; omega)
set_option maxRecDepth 100000 in
set_option maxHeartbeats 4000000 in
theorem mX6_writes (l : Launch) (D : va_G) (κ : Nat → ClassId) (Ad : Nat → Nat) (eo : Int32) (ip : Nat → Int32) (v nw aw od sv ot : Nat → Nat) (x : Nat) (hx : x < 128) (hv : v 11 < 200) : mM l yX6_writes wsX6_writes { frames := 0, cells := 0, slots := 0, locals := 0 } D κ Ad [.int (nI x)] eo ip v nw aw od sv ot none eo ip (upN v 11 (v 11 + 1)) nw aw od sv (upN ot (v 11) x) := by
  refine zM_of (cc := cX6_writes) (maxL := 2) (rt := none) [(0, .ref (Ad 0)), (1, .int (nI x))] (by decide +kernel) rfl (Nat.le_of_ble_eq_true rfl) rfl ?_
  intro p e s m args below meth c A C hr hk hnm
  have C : zC p s m args c cX6_writes 2 wsX6_writes RX6 D (zTy κ) A := C
  have hin : ∀ w ∈ wsX60, w ∈ wsX6_writes := fun w h => List.mem_cons_of_mem _ (List.mem_append_right _ h)
  have k29 : Cond.fieldLink RX6 29 "PeatRailwayModel" "output" "[B" ∈ wsX6_writes := by decide +kernel
  have k239 : Cond.fieldLink RX6 239 "PeatRailwayModel" "outputMany" "I" ∈ wsX6_writes := by decide +kernel
  refine z_aload_n C dX6_writes_0 0 rfl ?_
  refine zm_get_output C hin k29 dX6_writes_1 ?_
  refine z_aload_n C dX6_writes_4 0 rfl ?_
  refine zm_get_outputMany C hin (x := v 11) k239 dX6_writes_5 rfl ?_
  refine z_iload_n C dX6_writes_8 1 rfl ?_
  refine z_i2b (v := nI (x)) C dX6_writes_9 (ni_i2b (by omega)) ?_
  refine zm_ast_output C (by omega) (by omega) dX6_writes_10 ?_
  refine z_aload_n C dX6_writes_11 0 rfl ?_
  refine z_dup C dX6_writes_12 rfl ?_
  refine zm_get_outputMany C hin (x := v 11) k239 dX6_writes_13 rfl ?_
  refine z_iconst (v := nI 1) C dX6_writes_16 (by decide) ?_
  refine zn_iadd C dX6_writes_17 ?_
  refine zm_put_outputMany C hin k239 dX6_writes_18 ?_
  exact z_vret C hr hk () (rfl) trivial (List.Perm.of_eq rfl) dX6_writes_21 (Nat.le_refl _) (Nat.le_refl _)
theorem hdX6_writes : yX6_writes.cls = RX6 ∧ yX6_writes.cls ≠ "java/lang/invoke/MethodHandle" ∧ yX6_writes.cls ≠ "java/lang/invoke/VarHandle" ∧ (parseMethodDescriptor yX6_writes.desc).map (fun d => d.parameters.length) = some 1 := by decide +kernel
set_option maxRecDepth 100000 in
set_option maxHeartbeats 4000000 in
theorem mX6_writesNumber (l : Launch) (D : va_G) (κ : Nat → ClassId) (Ad : Nat → Nat) (eo : Int32) (ip : Nat → Int32) (v nw aw od sv ot : Nat → Nat) (n : Nat) (hx : n < 100) (hv : v 11 < 190) : mM l yX6_writesNumber wsX6_writesNumber { frames := 1, cells := 0, slots := 0, locals := 21 } D κ Ad [.int (nI n)] eo ip v nw aw od sv ot none eo ip (upN v 11 ((wNum (ot, v 11) n).2)) nw aw od sv ((wNum (ot, v 11) n).1) := by
  refine zM_of (cc := cX6_writesNumber) (maxL := 2) (rt := none) [(0, .ref (Ad 0)), (1, .int (nI n))] (by decide +kernel) rfl (Nat.le_of_ble_eq_true rfl) rfl ?_
  intro p e s m args below meth c A C hr hk hnm
  have C : zC p s m args c cX6_writesNumber 2 wsX6_writesNumber RX6 D (zTy κ) A := C
  refine z_iload_n C dX6_writesNumber_0 1 rfl ?_
  refine z_bipush (v := nI 9) C dX6_writesNumber_1 (by decide) ?_
  refine zn_icmp_le C 17 dX6_writesNumber_3 (by decide) (by omega) (by omega) (fun h1 => ?_) (fun h2 => ?_)
  · refine z_aload_n C dX6_writesNumber_17 0 rfl ?_
    refine z_bipush (v := nI 48) C dX6_writesNumber_18 (by decide) ?_
    refine z_iload_n C dX6_writesNumber_20 1 rfl ?_
    refine z_bipush (v := nI 10) C dX6_writesNumber_21 (by decide) ?_
    refine zn_irem C dX6_writesNumber_23 (by omega) (by omega) (by omega) ?_
    refine zn_iadd C dX6_writesNumber_24 ?_
    refine zm_call C (mX6_writes l D κ Ad _ _ _ _ _ _ _ _ (48 + (n % 10)) (by omega) (show v 11 < 200 by omega)) gX6_writesNumber_X6_writes rfl rfl rfl hdX6_writes ⟨Nat.le_of_ble_eq_true rfl, Nat.le_of_ble_eq_true rfl⟩ rfl (Nat.le_of_ble_eq_true rfl) dX6_writesNumber_25 ⟨Nat.zero_le _, Nat.zero_le _⟩ ?_
    exact z_vret C hr hk () (rfl) trivial (List.Perm.of_eq (show MW κ Ad eo ip (upN v 11 (v 11 + 1)) nw aw od sv (upN ot (v 11) (48 + (n % 10))) = MW κ Ad eo ip (upN v 11 (wNum (ot, v 11) n).2) nw aw od sv (wNum (ot, v 11) n).1 by simp only [wNum]; rw [if_neg (by omega)]; rfl)) dX6_writesNumber_28 (Nat.le_refl _) (Nat.le_refl _)
  · refine z_aload_n C dX6_writesNumber_6 0 rfl ?_
    refine z_bipush (v := nI 48) C dX6_writesNumber_7 (by decide) ?_
    refine z_iload_n C dX6_writesNumber_9 1 rfl ?_
    refine z_bipush (v := nI 10) C dX6_writesNumber_10 (by decide) ?_
    refine zn_idiv C dX6_writesNumber_12 (by omega) (by omega) (by omega) ?_
    refine zn_iadd C dX6_writesNumber_13 ?_
    refine zm_call C (mX6_writes l D κ Ad _ _ _ _ _ _ _ _ (48 + (n / 10)) (by omega) (show v 11 < 200 by omega)) gX6_writesNumber_X6_writes rfl rfl rfl hdX6_writes ⟨Nat.le_of_ble_eq_true rfl, Nat.le_of_ble_eq_true rfl⟩ rfl (Nat.le_of_ble_eq_true rfl) dX6_writesNumber_14 ⟨Nat.zero_le _, Nat.zero_le _⟩ ?_
    refine z_aload_n C dX6_writesNumber_17 0 rfl ?_
    refine z_bipush (v := nI 48) C dX6_writesNumber_18 (by decide) ?_
    refine z_iload_n C dX6_writesNumber_20 1 rfl ?_
    refine z_bipush (v := nI 10) C dX6_writesNumber_21 (by decide) ?_
    refine zn_irem C dX6_writesNumber_23 (by omega) (by omega) (by omega) ?_
    refine zn_iadd C dX6_writesNumber_24 ?_
    refine zm_call C (mX6_writes l D κ Ad _ _ _ _ _ _ _ _ (48 + (n % 10)) (by omega) (show v 11 + 1 < 200 by omega)) gX6_writesNumber_X6_writes rfl rfl rfl hdX6_writes ⟨Nat.le_of_ble_eq_true rfl, Nat.le_of_ble_eq_true rfl⟩ rfl (Nat.le_of_ble_eq_true rfl) dX6_writesNumber_25 ⟨Nat.zero_le _, Nat.zero_le _⟩ ?_
    exact z_vret C hr hk () (rfl) trivial (List.Perm.of_eq (show MW κ Ad eo ip (upN (upN v 11 (v 11 + 1)) 11 (v 11 + 1 + 1)) nw aw od sv (upN (upN ot (v 11) (48 + (n / 10))) (v 11 + 1) (48 + (n % 10))) = MW κ Ad eo ip (upN v 11 (wNum (ot, v 11) n).2) nw aw od sv (wNum (ot, v 11) n).1 by simp only [wNum]; rw [if_pos (by omega)]; rfl)) dX6_writesNumber_28 (Nat.le_refl _) (Nat.le_refl _)
theorem hdX6_writesNumber : yX6_writesNumber.cls = RX6 ∧ yX6_writesNumber.cls ≠ "java/lang/invoke/MethodHandle" ∧ yX6_writesNumber.cls ≠ "java/lang/invoke/VarHandle" ∧ (parseMethodDescriptor yX6_writesNumber.desc).map (fun d => d.parameters.length) = some 1 := by decide +kernel
set_option maxRecDepth 100000 in
set_option maxHeartbeats 4000000 in
theorem mX6_feeds (l : Launch) (D : va_G) (κ : Nat → ClassId) (Ad : Nat → Nat) (eo : Int32) (ip : Nat → Int32) (v nw aw od sv ot : Nat → Nat) (x : Int32) (hv : v 9 ≤ 596) : mM l yX6_feeds wsX6_feeds { frames := 0, cells := 0, slots := 0, locals := 0 } D κ Ad [.int (x)] eo ip v nw aw od sv ot none eo (fdF ip (v 9) x) (upN v 9 (v 9 + 4)) nw aw od sv ot := by
  refine zM_of (cc := cX6_feeds) (maxL := 2) (rt := none) [(0, .ref (Ad 0)), (1, .int (x))] (by decide +kernel) rfl (Nat.le_of_ble_eq_true rfl) rfl ?_
  intro p e s m args below meth c A C hr hk hnm
  have C : zC p s m args c cX6_feeds 2 wsX6_feeds RX6 D (zTy κ) A := C
  have hin : ∀ w ∈ wsX60, w ∈ wsX6_feeds := fun w h => List.mem_cons_of_mem _ (List.mem_append_right _ h)
  have k25 : Cond.fieldLink RX6 25 "PeatRailwayModel" "input" "[B" ∈ wsX6_feeds := by decide +kernel
  have k180 : Cond.fieldLink RX6 180 "PeatRailwayModel" "inputMany" "I" ∈ wsX6_feeds := by decide +kernel
  refine z_aload_n C dX6_feeds_0 0 rfl ?_
  refine zm_get_input C hin k25 dX6_feeds_1 ?_
  refine z_aload_n C dX6_feeds_4 0 rfl ?_
  refine zm_get_inputMany C hin (x := v 9) k180 dX6_feeds_5 rfl ?_
  refine z_iload_n C dX6_feeds_8 1 rfl ?_
  refine z_bipush (v := nI 24) C dX6_feeds_9 (by decide) ?_
  refine z_ishr C dX6_feeds_11 ?_
  refine z_i2b C dX6_feeds_12 rfl ?_
  refine zm_ast_input C (by omega) dX6_feeds_13 ?_
  refine z_aload_n C dX6_feeds_14 0 rfl ?_
  refine zm_get_input C hin k25 dX6_feeds_15 ?_
  refine z_aload_n C dX6_feeds_18 0 rfl ?_
  refine zm_get_inputMany C hin (x := v 9) k180 dX6_feeds_19 rfl ?_
  refine z_iconst (v := nI 1) C dX6_feeds_22 (by decide) ?_
  refine zn_iadd C dX6_feeds_23 ?_
  refine z_iload_n C dX6_feeds_24 1 rfl ?_
  refine z_bipush (v := nI 16) C dX6_feeds_25 (by decide) ?_
  refine z_ishr C dX6_feeds_27 ?_
  refine z_i2b C dX6_feeds_28 rfl ?_
  refine zm_ast_input C (by omega) dX6_feeds_29 ?_
  refine z_aload_n C dX6_feeds_30 0 rfl ?_
  refine zm_get_input C hin k25 dX6_feeds_31 ?_
  refine z_aload_n C dX6_feeds_34 0 rfl ?_
  refine zm_get_inputMany C hin (x := v 9) k180 dX6_feeds_35 rfl ?_
  refine z_iconst (v := nI 2) C dX6_feeds_38 (by decide) ?_
  refine zn_iadd C dX6_feeds_39 ?_
  refine z_iload_n C dX6_feeds_40 1 rfl ?_
  refine z_bipush (v := nI 8) C dX6_feeds_41 (by decide) ?_
  refine z_ishr C dX6_feeds_43 ?_
  refine z_i2b C dX6_feeds_44 rfl ?_
  refine zm_ast_input C (by omega) dX6_feeds_45 ?_
  refine z_aload_n C dX6_feeds_46 0 rfl ?_
  refine zm_get_input C hin k25 dX6_feeds_47 ?_
  refine z_aload_n C dX6_feeds_50 0 rfl ?_
  refine zm_get_inputMany C hin (x := v 9) k180 dX6_feeds_51 rfl ?_
  refine z_iconst (v := nI 3) C dX6_feeds_54 (by decide) ?_
  refine zn_iadd C dX6_feeds_55 ?_
  refine z_iload_n C dX6_feeds_56 1 rfl ?_
  refine z_i2b C dX6_feeds_57 rfl ?_
  refine zm_ast_input C (by omega) dX6_feeds_58 ?_
  refine z_aload_n C dX6_feeds_59 0 rfl ?_
  refine z_dup C dX6_feeds_60 rfl ?_
  refine zm_get_inputMany C hin (x := v 9) k180 dX6_feeds_61 rfl ?_
  refine z_iconst (v := nI 4) C dX6_feeds_64 (by decide) ?_
  refine zn_iadd C dX6_feeds_65 ?_
  refine zm_put_inputMany C hin k180 dX6_feeds_66 ?_
  exact z_vret C hr hk () (rfl) trivial (List.Perm.of_eq rfl) dX6_feeds_69 (Nat.le_refl _) (Nat.le_refl _)
theorem hdX6_feeds : yX6_feeds.cls = RX6 ∧ yX6_feeds.cls ≠ "java/lang/invoke/MethodHandle" ∧ yX6_feeds.cls ≠ "java/lang/invoke/VarHandle" ∧ (parseMethodDescriptor yX6_feeds.desc).map (fun d => d.parameters.length) = some 1 := by decide +kernel
set_option maxRecDepth 100000 in
set_option maxHeartbeats 4000000 in
theorem mX6_append_no (l : Launch) (D : va_G) (κ : Nat → ClassId) (Ad : Nat → Nat) (eo : Int32) (ip : Nat → Int32) (v nw aw od sv ot : Nat → Nat) (x1 x2 x3 x4 x5 : Int32) (hv : 580 < v 9) (hv2 : v 9 ≤ 600) : mM l yX6_append wsX6_append { frames := 1, cells := 0, slots := 0, locals := 21 } D κ Ad [.int (x1), .int (x2), .int (x3), .int (x4), .int (x5)] eo ip v nw aw od sv ot (some (.int (nI 0))) eo ip (upN v 1 1) nw aw od sv ot := by
  refine zM_of (cc := cX6_append) (maxL := 6) (rt := (some .int)) [(0, .ref (Ad 0)), (1, .int (x1)), (2, .int (x2)), (3, .int (x3)), (4, .int (x4)), (5, .int (x5))] (by decide +kernel) rfl (Nat.le_of_ble_eq_true rfl) rfl ?_
  intro p e s m args below meth c A C hr hk hnm
  have C : zC p s m args c cX6_append 6 wsX6_append RX6 D (zTy κ) A := C
  have hin : ∀ w ∈ wsX60, w ∈ wsX6_append := fun w h => List.mem_cons_of_mem _ (List.mem_append_right _ h)
  have k180 : Cond.fieldLink RX6 180 "PeatRailwayModel" "inputMany" "I" ∈ wsX6_append := by decide +kernel
  refine z_aload_n C dX6_append_0 0 rfl ?_
  refine zm_get_inputMany C hin (x := v 9) k180 dX6_append_1 rfl ?_
  refine z_sipush (v := nI 580) C dX6_append_4 (by decide) ?_
  refine zn_icmp_le C 16 dX6_append_7 (by decide) (by omega) (by omega) (fun h1 => ?_) (fun h2 => ?_)
  · exact absurd hv (by omega)
  · refine z_aload_n C dX6_append_10 0 rfl ?_
    refine z_iconst (v := nI 1) C dX6_append_11 (by decide) ?_
    refine zm_call C (mX6_refuse l D κ Ad _ _ _ _ _ _ _ _ 1) gX6_append_X6_refuse rfl rfl rfl hdX6_refuse ⟨Nat.le_of_ble_eq_true rfl, Nat.le_of_ble_eq_true rfl⟩ rfl (Nat.le_of_ble_eq_true rfl) dX6_append_12 ⟨Nat.zero_le _, Nat.zero_le _⟩ ?_
    exact z_iret C hr hk () (rfl) trivial (List.Perm.of_eq rfl) dX6_append_15 (Nat.le_refl _) (Nat.le_refl _)
theorem hdX6_append : yX6_append.cls = RX6 ∧ yX6_append.cls ≠ "java/lang/invoke/MethodHandle" ∧ yX6_append.cls ≠ "java/lang/invoke/VarHandle" ∧ (parseMethodDescriptor yX6_append.desc).map (fun d => d.parameters.length) = some 5 := by decide +kernel
set_option maxRecDepth 100000 in
set_option maxHeartbeats 4000000 in
theorem mX6_append_ok (l : Launch) (D : va_G) (κ : Nat → ClassId) (Ad : Nat → Nat) (eo : Int32) (ip : Nat → Int32) (v nw aw od sv ot : Nat → Nat) (x1 x2 x3 x4 x5 : Int32) (hv : v 9 ≤ 580) : mM l yX6_append wsX6_append { frames := 1, cells := 0, slots := 0, locals := 21 } D κ Ad [.int (x1), .int (x2), .int (x3), .int (x4), .int (x5)] eo ip v nw aw od sv ot (some (.int (nI (v 9 + 4 + 4 + 4 + 4 + 4)))) eo (fdF (fdF (fdF (fdF (fdF ip (v 9) x1) (v 9 + 4) x2) (v 9 + 4 + 4) x3) (v 9 + 4 + 4 + 4) x4) (v 9 + 4 + 4 + 4 + 4) x5) (upN (upN v 9 (v 9 + 4 + 4 + 4 + 4 + 4)) 1 0) nw aw od sv ot := by
  refine zM_of (cc := cX6_append) (maxL := 6) (rt := (some .int)) [(0, .ref (Ad 0)), (1, .int (x1)), (2, .int (x2)), (3, .int (x3)), (4, .int (x4)), (5, .int (x5))] (by decide +kernel) rfl (Nat.le_of_ble_eq_true rfl) rfl ?_
  intro p e s m args below meth c A C hr hk hnm
  have C : zC p s m args c cX6_append 6 wsX6_append RX6 D (zTy κ) A := C
  have hin : ∀ w ∈ wsX60, w ∈ wsX6_append := fun w h => List.mem_cons_of_mem _ (List.mem_append_right _ h)
  have k180 : Cond.fieldLink RX6 180 "PeatRailwayModel" "inputMany" "I" ∈ wsX6_append := by decide +kernel
  refine z_aload_n C dX6_append_0 0 rfl ?_
  refine zm_get_inputMany C hin (x := v 9) k180 dX6_append_1 rfl ?_
  refine z_sipush (v := nI 580) C dX6_append_4 (by decide) ?_
  refine zn_icmp_le C 16 dX6_append_7 (by decide) (by omega) (by omega) (fun h1 => ?_) (fun h2 => ?_)
  · refine z_aload_n C dX6_append_16 0 rfl ?_
    refine z_iload_n C dX6_append_17 1 rfl ?_
    refine zm_call C (mX6_feeds l D κ Ad _ _ _ _ _ _ _ _ (x1) (show v 9 ≤ 596 by omega)) gX6_append_X6_feeds rfl rfl rfl hdX6_feeds ⟨Nat.le_of_ble_eq_true rfl, Nat.le_of_ble_eq_true rfl⟩ rfl (Nat.le_of_ble_eq_true rfl) dX6_append_18 ⟨Nat.zero_le _, Nat.zero_le _⟩ ?_
    refine z_aload_n C dX6_append_21 0 rfl ?_
    refine z_iload_n C dX6_append_22 2 rfl ?_
    refine zm_call C (mX6_feeds l D κ Ad _ _ _ _ _ _ _ _ (x2) (show v 9 + 4 ≤ 596 by omega)) gX6_append_X6_feeds rfl rfl rfl hdX6_feeds ⟨Nat.le_of_ble_eq_true rfl, Nat.le_of_ble_eq_true rfl⟩ rfl (Nat.le_of_ble_eq_true rfl) dX6_append_23 ⟨Nat.zero_le _, Nat.zero_le _⟩ ?_
    refine z_aload_n C dX6_append_26 0 rfl ?_
    refine z_iload_n C dX6_append_27 3 rfl ?_
    refine zm_call C (mX6_feeds l D κ Ad _ _ _ _ _ _ _ _ (x3) (show v 9 + 4 + 4 ≤ 596 by omega)) gX6_append_X6_feeds rfl rfl rfl hdX6_feeds ⟨Nat.le_of_ble_eq_true rfl, Nat.le_of_ble_eq_true rfl⟩ rfl (Nat.le_of_ble_eq_true rfl) dX6_append_28 ⟨Nat.zero_le _, Nat.zero_le _⟩ ?_
    refine z_aload_n C dX6_append_31 0 rfl ?_
    refine z_iload C dX6_append_32 4 rfl ?_
    refine zm_call C (mX6_feeds l D κ Ad _ _ _ _ _ _ _ _ (x4) (show v 9 + 4 + 4 + 4 ≤ 596 by omega)) gX6_append_X6_feeds rfl rfl rfl hdX6_feeds ⟨Nat.le_of_ble_eq_true rfl, Nat.le_of_ble_eq_true rfl⟩ rfl (Nat.le_of_ble_eq_true rfl) dX6_append_34 ⟨Nat.zero_le _, Nat.zero_le _⟩ ?_
    refine z_aload_n C dX6_append_37 0 rfl ?_
    refine z_iload C dX6_append_38 5 rfl ?_
    refine zm_call C (mX6_feeds l D κ Ad _ _ _ _ _ _ _ _ (x5) (show v 9 + 4 + 4 + 4 + 4 ≤ 596 by omega)) gX6_append_X6_feeds rfl rfl rfl hdX6_feeds ⟨Nat.le_of_ble_eq_true rfl, Nat.le_of_ble_eq_true rfl⟩ rfl (Nat.le_of_ble_eq_true rfl) dX6_append_40 ⟨Nat.zero_le _, Nat.zero_le _⟩ ?_
    refine z_aload_n C dX6_append_43 0 rfl ?_
    refine z_aload_n C dX6_append_44 0 rfl ?_
    refine zm_get_inputMany C hin (x := v 9 + 4 + 4 + 4 + 4 + 4) k180 dX6_append_45 rfl ?_
    refine zm_call C (mX6_told l D κ Ad _ _ _ _ _ _ _ _ (nI (v 9 + 4 + 4 + 4 + 4 + 4))) gX6_append_X6_told rfl rfl rfl hdX6_told ⟨Nat.le_of_ble_eq_true rfl, Nat.le_of_ble_eq_true rfl⟩ rfl (Nat.le_of_ble_eq_true rfl) dX6_append_48 ⟨Nat.zero_le _, Nat.zero_le _⟩ ?_
    exact z_iret C hr hk () (rfl) trivial (List.Perm.of_eq rfl) dX6_append_51 (Nat.le_refl _) (Nat.le_refl _)
  · exact absurd hv (by omega)
end M8
