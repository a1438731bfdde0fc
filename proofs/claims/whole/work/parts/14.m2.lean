section M2
set_option maxRecDepth 100000 in
set_option maxHeartbeats 4000000 in
theorem mX6_after (l : Launch) (D : va_G) (κ : Nat → ClassId) (Ad : Nat → Nat) (eo : Int32) (ip : Nat → Int32) (v nw aw od sv ot : Nat → Nat) (M : Nat) (b : Nat) (hB : Bd M nw) (hb : b < 1073741824) : mM l yX6_after wsX6_after { frames := 0, cells := 0, slots := 0, locals := 0 } D κ Ad [.int (nI b)] eo ip v nw aw od sv ot (some (.int (nI (aft nw b)))) eo ip v nw aw od sv ot := by
  refine zM_of (cc := cX6_after) (maxL := 2) (rt := (some .int)) [(0, .ref (Ad 0)), (1, .int (nI b))] (by decide +kernel) rfl (Nat.le_of_ble_eq_true rfl) rfl ?_
  intro p e s m args below meth c A C hr hk hnm
  have C : zC p s m args c cX6_after 2 wsX6_after RX6 D (zTy κ) A := C
  have hin : ∀ w ∈ wsX60, w ∈ wsX6_after := fun w h => List.mem_cons_of_mem _ (List.mem_append_right _ h)
  have k13 : Cond.fieldLink RX6 13 "PeatRailwayModel" "now" "[I" ∈ wsX6_after := by decide +kernel
  obtain ⟨hM1, hM2, ht0, hnb, hnt, hj, hp⟩ := id hB
  refine z_iload_n C dX6_after_0 1 rfl ?_
  refine z_iconst (v := nI 1) C dX6_after_1 (by decide) ?_
  refine zn_iadd C dX6_after_2 ?_
  refine z_aload_n C dX6_after_3 0 rfl ?_
  refine zm_get_now C hin k13 dX6_after_4 ?_
  refine z_iconst (v := nI 1) C dX6_after_7 (by decide) ?_
  refine zm_ald_now C (by omega) dX6_after_8 ?_
  refine zn_icmp_ne C 14 dX6_after_9 (by decide) (by omega) (by omega) (fun h1 => ?_) (fun h2 => ?_)
  · refine z_iload_n C dX6_after_14 1 rfl ?_
    refine z_iconst (v := nI 1) C dX6_after_15 (by decide) ?_
    refine zn_iadd C dX6_after_16 ?_
    exact z_iret C hr hk () (congrArg (fun x : Nat => some (Value.int (nI x))) (show aft nw b = b + 1 by simp only [aft]; rw [if_neg h1])) trivial (List.Perm.of_eq rfl) dX6_after_17 (Nat.le_refl _) (Nat.le_refl _)
  · refine z_iconst (v := nI 0) C dX6_after_12 (by decide) ?_
    exact z_iret C hr hk () (congrArg (fun x : Nat => some (Value.int (nI x))) (show aft nw b = 0 by simp only [aft]; rw [if_pos h2])) trivial (List.Perm.of_eq rfl) dX6_after_13 (Nat.le_refl _) (Nat.le_refl _)
theorem hdX6_after : yX6_after.cls = RX6 ∧ yX6_after.cls ≠ "java/lang/invoke/MethodHandle" ∧ yX6_after.cls ≠ "java/lang/invoke/VarHandle" ∧ (parseMethodDescriptor yX6_after.desc).map (fun d => d.parameters.length) = some 1 := by decide +kernel
set_option maxRecDepth 100000 in
set_option maxHeartbeats 4000000 in
theorem mX6_trainAt (l : Launch) (D : va_G) (κ : Nat → ClassId) (Ad : Nat → Nat) (eo : Int32) (ip : Nat → Int32) (v nw aw od sv ot : Nat → Nat) (M : Nat) (b : Nat) (hB : Bd M nw) (hb : b < 1073741824) : mM l yX6_trainAt wsX6_trainAt { frames := 1, cells := 0, slots := 0, locals := 20 } D κ Ad [.int (nI b)] eo ip v nw aw od sv ot (some (.int (tI (trAt nw b)))) eo ip v nw aw od sv ot := by
  refine zM_of (cc := cX6_trainAt) (maxL := 3) (rt := (some .int)) [(0, .ref (Ad 0)), (1, .int (nI b))] (by decide +kernel) rfl (Nat.le_of_ble_eq_true rfl) rfl ?_
  intro p e s m args below meth c A C hr hk hnm
  have C : zC p s m args c cX6_trainAt 3 wsX6_trainAt RX6 D (zTy κ) A := C
  have hin : ∀ w ∈ wsX60, w ∈ wsX6_trainAt := fun w h => List.mem_cons_of_mem _ (List.mem_append_right _ h)
  have k13 : Cond.fieldLink RX6 13 "PeatRailwayModel" "now" "[I" ∈ wsX6_trainAt := by decide +kernel
  obtain ⟨hM1, hM2, ht0, hnb, hnt, hj, hp⟩ := id hB
  refine z_iconst (v := nI 0) C dX6_trainAt_0 (by decide) ?_
  refine z_istore_n C [(2, .int (nI 0)), (0, .ref (Ad 0)), (1, .int (nI b))] dX6_trainAt_1 (by decide) rfl ?_
  refine z_lv [1, 2, 0] rfl ?_
  refine z_loop (σ := Nat) (fun k => MW κ Ad eo ip v nw aw od sv ot) (fun k => [(0, .ref (Ad 0)), (1, .int (nI b)), (2, .int (nI k))]) (fun k => k ≤ nw 2 ∧ trAt nw b = trL nw b (nw 2 - k) k) (fun k => nw 2 - k) (0) (⟨Nat.zero_le _, rfl⟩) rfl rfl ?_
  rintro k hI2 ih2
  obtain ⟨hk1, hk2⟩ := hI2
  refine z_iload_n C dX6_trainAt_2 2 rfl ?_
  refine z_aload_n C dX6_trainAt_3 0 rfl ?_
  refine zm_get_now C hin k13 dX6_trainAt_4 ?_
  refine z_iconst (v := nI 2) C dX6_trainAt_7 (by decide) ?_
  refine zm_ald_now C (by omega) dX6_trainAt_8 ?_
  refine zn_icmp_ge C 35 dX6_trainAt_9 (by decide) (by omega) (by omega) (fun h1 => ?_) (fun h2 => ?_)
  · refine z_iconst (v := (-1)) C dX6_trainAt_35 (by decide) ?_
    exact z_iret C hr hk () (congrArg (fun x => some (Value.int (tI x))) (show trAt nw b = 0 by rw [hk2, show nw 2 - k = 0 by omega]; rfl)) trivial (List.Perm.of_eq rfl) dX6_trainAt_36 (Nat.le_refl _) (Nat.le_refl _)
  · refine z_aload_n C dX6_trainAt_12 0 rfl ?_
    refine zm_get_now C hin k13 dX6_trainAt_13 ?_
    refine z_iload_n C dX6_trainAt_16 2 rfl ?_
    refine zs_call C (mX6_t l D κ k) gX6_trainAt_X6_t rfl rfl rfl hdX6_t ⟨Nat.le_of_ble_eq_true rfl, Nat.le_of_ble_eq_true rfl⟩ rfl (Nat.le_of_ble_eq_true rfl) dX6_trainAt_17 ⟨Nat.zero_le _, Nat.zero_le _⟩ ?_
    refine z_iconst (v := nI 2) C dX6_trainAt_20 (by decide) ?_
    refine zn_iadd C dX6_trainAt_21 ?_
    refine zm_ald_now C (by omega) dX6_trainAt_22 ?_
    have g3 : nw ((65 + 5 * k) + 2) ≤ M := hB.j (by omega) (by omega)
    have q4 : nw ((65 + 5 * k) + 2) < nw 1 := hB.p (t := k) (by omega)
    refine z_iload_n C dX6_trainAt_23 1 rfl ?_
    refine zn_icmp_ne C 29 dX6_trainAt_24 (by decide) (by omega) (by omega) (fun h5 => ?_) (fun h6 => ?_)
    · refine zn_iinc (n := 1) C [(2, .int (nI (k + 1))), (0, .ref (Ad 0)), (1, .int (nI b))] dX6_trainAt_29 2 rfl (by decide) rfl ?_
      refine z_goto (tgt := 2) C dX6_trainAt_32 (by decide) ?_
      refine z_lv [1, 2, 0] rfl ?_
      exact ih2 (k + 1) ⟨by omega, by rw [hk2, show nw 2 - k = (nw 2 - (k + 1)) + 1 by omega]; simp only [trL]; rw [if_neg h5]⟩ (by omega)
    · refine z_iload_n C dX6_trainAt_27 2 rfl ?_
      exact z_iret C hr hk () (congrArg (fun x => some (Value.int (tI x))) (show trAt nw b = k + 1 by rw [hk2, show nw 2 - k = (nw 2 - (k + 1)) + 1 by omega]; simp only [trL]; rw [if_pos h6])) trivial (List.Perm.of_eq rfl) dX6_trainAt_28 (Nat.le_refl _) (Nat.le_refl _)
theorem hdX6_trainAt : yX6_trainAt.cls = RX6 ∧ yX6_trainAt.cls ≠ "java/lang/invoke/MethodHandle" ∧ yX6_trainAt.cls ≠ "java/lang/invoke/VarHandle" ∧ (parseMethodDescriptor yX6_trainAt.desc).map (fun d => d.parameters.length) = some 1 := by decide +kernel
set_option maxRecDepth 100000 in
set_option maxHeartbeats 4000000 in
theorem mX6_isOccupied (l : Launch) (D : va_G) (κ : Nat → ClassId) (Ad : Nat → Nat) (eo : Int32) (ip : Nat → Int32) (v nw aw od sv ot : Nat → Nat) (M : Nat) (b : Nat) (hB : Bd M nw) (hb : b < 22) : mM l yX6_isOccupied wsX6_isOccupied { frames := 2, cells := 0, slots := 0, locals := 42 } D κ Ad [.int (nI b)] eo ip v nw aw od sv ot (some (.int (nI (occ nw b).toNat))) eo ip v nw aw od sv ot := by
  refine zM_of (cc := cX6_isOccupied) (maxL := 2) (rt := (some .boolean)) [(0, .ref (Ad 0)), (1, .int (nI b))] (by decide +kernel) rfl (Nat.le_of_ble_eq_true rfl) rfl ?_
  intro p e s m args below meth c A C hr hk hnm
  have C : zC p s m args c cX6_isOccupied 2 wsX6_isOccupied RX6 D (zTy κ) A := C
  have hin : ∀ w ∈ wsX60, w ∈ wsX6_isOccupied := fun w h => List.mem_cons_of_mem _ (List.mem_append_right _ h)
  have k13 : Cond.fieldLink RX6 13 "PeatRailwayModel" "now" "[I" ∈ wsX6_isOccupied := by decide +kernel
  obtain ⟨hM1, hM2, ht0, hnb, hnt, hj, hp⟩ := id hB
  have htr := trAt_le nw b
  refine z_aload_n C dX6_isOccupied_0 0 rfl ?_
  refine z_iload_n C dX6_isOccupied_1 1 rfl ?_
  refine zm_call C (mX6_trainAt l D κ Ad _ _ _ _ _ _ _ _ M b hB (by omega)) gX6_isOccupied_X6_trainAt rfl rfl rfl hdX6_trainAt ⟨Nat.le_of_ble_eq_true rfl, Nat.le_of_ble_eq_true rfl⟩ rfl (Nat.le_of_ble_eq_true rfl) dX6_isOccupied_2 ⟨Nat.zero_le _, Nat.zero_le _⟩ ?_
  refine z_iconst (v := (-1)) C dX6_isOccupied_5 (by decide) ?_
  refine zt_icmp_ne C 23 dX6_isOccupied_6 (by decide) (by omega) (fun h1 => ?_) (fun h2 => ?_)
  · refine z_iconst (v := nI 1) C dX6_isOccupied_23 (by decide) ?_
    refine z_goto (tgt := 28) C dX6_isOccupied_24 (by decide) ?_
    exact z_zret C hr hk (by decide) () (congrArg (fun x : Bool => some (Value.int (nI x.toNat))) (show occ nw b = true by simp only [occ]; rw [if_pos h1])) trivial (List.Perm.of_eq rfl) dX6_isOccupied_28 (Nat.le_refl _) (Nat.le_refl _)
  · refine z_aload_n C dX6_isOccupied_9 0 rfl ?_
    refine zm_get_now C hin k13 dX6_isOccupied_10 ?_
    refine z_iload_n C dX6_isOccupied_13 1 rfl ?_
    refine zs_call C (mX6_b l D κ b) gX6_isOccupied_X6_b rfl rfl rfl hdX6_b ⟨Nat.le_of_ble_eq_true rfl, Nat.le_of_ble_eq_true rfl⟩ rfl (Nat.le_of_ble_eq_true rfl) dX6_isOccupied_14 ⟨Nat.zero_le _, Nat.zero_le _⟩ ?_
    refine z_iconst (v := nI 5) C dX6_isOccupied_17 (by decide) ?_
    refine zn_iadd C dX6_isOccupied_18 ?_
    refine zm_ald_now C (by omega) dX6_isOccupied_19 ?_
    have g3 : nw ((5 + 6 * b) + 5) ≤ M := hB.j (by omega) (by omega)
    refine zn_if_le C 27 dX6_isOccupied_20 (by decide) (by omega) (fun h4 => ?_) (fun h5 => ?_)
    · refine z_iconst (v := nI 0) C dX6_isOccupied_27 (by decide) ?_
      exact z_zret C hr hk (by decide) () (congrArg (fun x : Bool => some (Value.int (nI x.toNat))) (show occ nw b = false by simp only [occ]; rw [if_neg (by omega)]; exact decide_eq_false (by omega))) trivial (List.Perm.of_eq rfl) dX6_isOccupied_28 (Nat.le_refl _) (Nat.le_refl _)
    · refine z_iconst (v := nI 1) C dX6_isOccupied_23 (by decide) ?_
      refine z_goto (tgt := 28) C dX6_isOccupied_24 (by decide) ?_
      exact z_zret C hr hk (by decide) () (congrArg (fun x : Bool => some (Value.int (nI x.toNat))) (show occ nw b = true by simp only [occ]; rw [if_neg (by omega)]; exact decide_eq_true (by omega))) trivial (List.Perm.of_eq rfl) dX6_isOccupied_28 (Nat.le_refl _) (Nat.le_refl _)
theorem hdX6_isOccupied : yX6_isOccupied.cls = RX6 ∧ yX6_isOccupied.cls ≠ "java/lang/invoke/MethodHandle" ∧ yX6_isOccupied.cls ≠ "java/lang/invoke/VarHandle" ∧ (parseMethodDescriptor yX6_isOccupied.desc).map (fun d => d.parameters.length) = some 1 := by decide +kernel
set_option maxRecDepth 100000 in
set_option maxHeartbeats 4000000 in
theorem mX6_reason (l : Launch) (D : va_G) (κ : Nat → ClassId) (Ad : Nat → Nat) (eo : Int32) (ip : Nat → Int32) (v nw aw od sv ot : Nat → Nat) (M : Nat) (b : Nat) (hB : Bd M nw) (hb : b < 10) : mM l yX6_reason wsX6_reason { frames := 3, cells := 0, slots := 0, locals := 63 } D κ Ad [.int (nI b)] eo ip v nw aw od sv ot (some (.int (nI (rsn nw b)))) eo ip v nw aw od sv ot := by
  refine zM_of (cc := cX6_reason) (maxL := 2) (rt := (some .int)) [(0, .ref (Ad 0)), (1, .int (nI b))] (by decide +kernel) rfl (Nat.le_of_ble_eq_true rfl) rfl ?_
  intro p e s m args below meth c A C hr hk hnm
  have C : zC p s m args c cX6_reason 2 wsX6_reason RX6 D (zTy κ) A := C
  have hin : ∀ w ∈ wsX60, w ∈ wsX6_reason := fun w h => List.mem_cons_of_mem _ (List.mem_append_right _ h)
  have k13 : Cond.fieldLink RX6 13 "PeatRailwayModel" "now" "[I" ∈ wsX6_reason := by decide +kernel
  obtain ⟨hM1, hM2, ht0, hnb, hnt, hj, hp⟩ := id hB
  have htr := trAt_le nw b
  have haf : b + 1 < 22 := by omega
  have haf2 : aft nw b < 22 := by simp only [aft]; split <;> omega
  refine z_aload_n C dX6_reason_0 0 rfl ?_
  refine z_iload_n C dX6_reason_1 1 rfl ?_
  refine zm_call C (mX6_trainAt l D κ Ad _ _ _ _ _ _ _ _ M b hB (by omega)) gX6_reason_X6_trainAt rfl rfl rfl hdX6_trainAt ⟨Nat.le_of_ble_eq_true rfl, Nat.le_of_ble_eq_true rfl⟩ rfl (Nat.le_of_ble_eq_true rfl) dX6_reason_2 ⟨Nat.zero_le _, Nat.zero_le _⟩ ?_
  refine z_iconst (v := (-1)) C dX6_reason_5 (by decide) ?_
  refine zt_icmp_eq C 11 dX6_reason_6 (by decide) (by omega) (fun h1 => ?_) (fun h2 => ?_)
  · refine z_aload_n C dX6_reason_11 0 rfl ?_
    refine zm_get_now C hin k13 dX6_reason_12 ?_
    refine z_iload_n C dX6_reason_15 1 rfl ?_
    refine zs_call C (mX6_b l D κ b) gX6_reason_X6_b rfl rfl rfl hdX6_b ⟨Nat.le_of_ble_eq_true rfl, Nat.le_of_ble_eq_true rfl⟩ rfl (Nat.le_of_ble_eq_true rfl) dX6_reason_16 ⟨Nat.zero_le _, Nat.zero_le _⟩ ?_
    refine z_iconst (v := nI 5) C dX6_reason_19 (by decide) ?_
    refine zn_iadd C dX6_reason_20 ?_
    refine zm_ald_now C (by omega) dX6_reason_21 ?_
    have g3 : nw ((5 + 6 * b) + 5) ≤ M := hB.j (by omega) (by omega)
    refine zn_if_le C 27 dX6_reason_22 (by decide) (by omega) (fun h4 => ?_) (fun h5 => ?_)
    · refine z_aload_n C dX6_reason_27 0 rfl ?_
      refine zm_get_now C hin k13 dX6_reason_28 ?_
      refine z_iload_n C dX6_reason_31 1 rfl ?_
      refine zs_call C (mX6_b l D κ b) gX6_reason_X6_b rfl rfl rfl hdX6_b ⟨Nat.le_of_ble_eq_true rfl, Nat.le_of_ble_eq_true rfl⟩ rfl (Nat.le_of_ble_eq_true rfl) dX6_reason_32 ⟨Nat.zero_le _, Nat.zero_le _⟩ ?_
      refine z_iconst (v := nI 4) C dX6_reason_35 (by decide) ?_
      refine zn_iadd C dX6_reason_36 ?_
      refine zm_ald_now C (by omega) dX6_reason_37 ?_
      have g6 : nw ((5 + 6 * b) + 4) ≤ M := hB.j (by omega) (by omega)
      refine z_iconst (v := nI 1) C dX6_reason_38 (by decide) ?_
      refine zn_icmp_ne C 44 dX6_reason_39 (by decide) (by omega) (by omega) (fun h7 => ?_) (fun h8 => ?_)
      · refine z_aload_n C dX6_reason_44 0 rfl ?_
        refine zm_get_now C hin k13 dX6_reason_45 ?_
        refine z_iload_n C dX6_reason_48 1 rfl ?_
        refine zs_call C (mX6_b l D κ b) gX6_reason_X6_b rfl rfl rfl hdX6_b ⟨Nat.le_of_ble_eq_true rfl, Nat.le_of_ble_eq_true rfl⟩ rfl (Nat.le_of_ble_eq_true rfl) dX6_reason_49 ⟨Nat.zero_le _, Nat.zero_le _⟩ ?_
        refine z_iconst (v := nI 3) C dX6_reason_52 (by decide) ?_
        refine zn_iadd C dX6_reason_53 ?_
        refine zm_ald_now C (by omega) dX6_reason_54 ?_
        have g9 : nw ((5 + 6 * b) + 3) ≤ M := hB.j (by omega) (by omega)
        refine z_iconst (v := nI 1) C dX6_reason_55 (by decide) ?_
        refine zn_icmp_ne C 73 dX6_reason_56 (by decide) (by omega) (by omega) (fun h10 => ?_) (fun h11 => ?_)
        · refine z_iconst (v := nI 0) C dX6_reason_73 (by decide) ?_
          exact z_iret C hr hk () (congrArg (fun x : Nat => some (Value.int (nI x))) (show rsn nw b = 0 by simp only [rsn]; rw [if_neg (by omega)]; rw [if_neg (by omega)]; rw [if_neg (by omega)]; rw [if_neg (by omega)])) trivial (List.Perm.of_eq rfl) dX6_reason_74 (Nat.le_refl _) (Nat.le_refl _)
        · refine z_aload_n C dX6_reason_59 0 rfl ?_
          refine z_aload_n C dX6_reason_60 0 rfl ?_
          refine z_iload_n C dX6_reason_61 1 rfl ?_
          refine zm_call C (mX6_after l D κ Ad _ _ _ _ _ _ _ _ M b hB (by omega)) gX6_reason_X6_after rfl rfl rfl hdX6_after ⟨Nat.le_of_ble_eq_true rfl, Nat.le_of_ble_eq_true rfl⟩ rfl (Nat.le_of_ble_eq_true rfl) dX6_reason_62 ⟨Nat.zero_le _, Nat.zero_le _⟩ ?_
          refine zm_call C (mX6_isOccupied l D κ Ad _ _ _ _ _ _ _ _ M (aft nw b) hB (by omega)) gX6_reason_X6_isOccupied rfl rfl rfl hdX6_isOccupied ⟨Nat.le_of_ble_eq_true rfl, Nat.le_of_ble_eq_true rfl⟩ rfl (Nat.le_of_ble_eq_true rfl) dX6_reason_65 ⟨Nat.zero_le _, Nat.zero_le _⟩ ?_
          refine zb_if_eq C 73 dX6_reason_68 (by decide) (fun h12 => ?_) (fun h13 => ?_)
          · refine z_iconst (v := nI 0) C dX6_reason_73 (by decide) ?_
            exact z_iret C hr hk () (congrArg (fun x : Nat => some (Value.int (nI x))) (show rsn nw b = 0 by simp only [rsn]; rw [if_neg (by omega)]; rw [if_neg (by omega)]; rw [if_neg (by omega)]; rw [if_pos (by omega)]; rw [if_neg (by rw [h12]; decide)])) trivial (List.Perm.of_eq rfl) dX6_reason_74 (Nat.le_refl _) (Nat.le_refl _)
          · refine z_iconst (v := nI 4) C dX6_reason_71 (by decide) ?_
            exact z_iret C hr hk () (congrArg (fun x : Nat => some (Value.int (nI x))) (show rsn nw b = 4 by simp only [rsn]; rw [if_neg (by omega)]; rw [if_neg (by omega)]; rw [if_neg (by omega)]; rw [if_pos (by omega)]; rw [if_pos h13])) trivial (List.Perm.of_eq rfl) dX6_reason_72 (Nat.le_refl _) (Nat.le_refl _)
      · refine z_iconst (v := nI 3) C dX6_reason_42 (by decide) ?_
        exact z_iret C hr hk () (congrArg (fun x : Nat => some (Value.int (nI x))) (show rsn nw b = 3 by simp only [rsn]; rw [if_neg (by omega)]; rw [if_neg (by omega)]; rw [if_pos (by omega)])) trivial (List.Perm.of_eq rfl) dX6_reason_43 (Nat.le_refl _) (Nat.le_refl _)
    · refine z_iconst (v := nI 2) C dX6_reason_25 (by decide) ?_
      exact z_iret C hr hk () (congrArg (fun x : Nat => some (Value.int (nI x))) (show rsn nw b = 2 by simp only [rsn]; rw [if_neg (by omega)]; rw [if_pos (by omega)])) trivial (List.Perm.of_eq rfl) dX6_reason_26 (Nat.le_refl _) (Nat.le_refl _)
  · refine z_iconst (v := nI 1) C dX6_reason_9 (by decide) ?_
    exact z_iret C hr hk () (congrArg (fun x : Nat => some (Value.int (nI x))) (show rsn nw b = 1 by simp only [rsn]; rw [if_pos (by omega)])) trivial (List.Perm.of_eq rfl) dX6_reason_10 (Nat.le_refl _) (Nat.le_refl _)
theorem hdX6_reason : yX6_reason.cls = RX6 ∧ yX6_reason.cls ≠ "java/lang/invoke/MethodHandle" ∧ yX6_reason.cls ≠ "java/lang/invoke/VarHandle" ∧ (parseMethodDescriptor yX6_reason.desc).map (fun d => d.parameters.length) = some 1 := by decide +kernel
set_option maxRecDepth 100000 in
set_option maxHeartbeats 4000000 in
theorem mX6_speed (l : Launch) (D : va_G) (κ : Nat → ClassId) (Ad : Nat → Nat) (eo : Int32) (ip : Nat → Int32) (v nw aw od sv ot : Nat → Nat) (M : Nat) (t : Nat) (hB : Bd M nw) (ht : t < nw 2) : mM l yX6_speed wsX6_speed { frames := 1, cells := 0, slots := 0, locals := 20 } D κ Ad [.int (nI t)] eo ip v nw aw od sv ot (some (.int (nI (spd nw t)))) eo ip v nw aw od sv ot := by
  refine zM_of (cc := cX6_speed) (maxL := 3) (rt := (some .int)) [(0, .ref (Ad 0)), (1, .int (nI t))] (by decide +kernel) rfl (Nat.le_of_ble_eq_true rfl) rfl ?_
  intro p e s m args below meth c A C hr hk hnm
  have C : zC p s m args c cX6_speed 3 wsX6_speed RX6 D (zTy κ) A := C
  have hin : ∀ w ∈ wsX60, w ∈ wsX6_speed := fun w h => List.mem_cons_of_mem _ (List.mem_append_right _ h)
  have k13 : Cond.fieldLink RX6 13 "PeatRailwayModel" "now" "[I" ∈ wsX6_speed := by decide +kernel
  obtain ⟨hM1, hM2, ht0, hnb, hnt, hj, hp⟩ := id hB
  refine z_aload_n C dX6_speed_0 0 rfl ?_
  refine zm_get_now C hin k13 dX6_speed_1 ?_
  refine z_aload_n C dX6_speed_4 0 rfl ?_
  refine zm_get_now C hin k13 dX6_speed_5 ?_
  refine z_iload_n C dX6_speed_8 1 rfl ?_
  refine zs_call C (mX6_t l D κ t) gX6_speed_X6_t rfl rfl rfl hdX6_t ⟨Nat.le_of_ble_eq_true rfl, Nat.le_of_ble_eq_true rfl⟩ rfl (Nat.le_of_ble_eq_true rfl) dX6_speed_9 ⟨Nat.zero_le _, Nat.zero_le _⟩ ?_
  refine z_iconst (v := nI 2) C dX6_speed_12 (by decide) ?_
  refine zn_iadd C dX6_speed_13 ?_
  refine zm_ald_now C (by omega) dX6_speed_14 ?_
  have g1 : nw ((65 + 5 * t) + 2) ≤ M := hB.j (by omega) (by omega)
  have q2 : nw ((65 + 5 * t) + 2) < nw 1 := hB.p (t := t) (by omega)
  refine zs_call C (mX6_b l D κ (nw ((65 + 5 * t) + 2))) gX6_speed_X6_b rfl rfl rfl hdX6_b ⟨Nat.le_of_ble_eq_true rfl, Nat.le_of_ble_eq_true rfl⟩ rfl (Nat.le_of_ble_eq_true rfl) dX6_speed_15 ⟨Nat.zero_le _, Nat.zero_le _⟩ ?_
  refine z_iconst (v := nI 2) C dX6_speed_18 (by decide) ?_
  refine zn_iadd C dX6_speed_19 ?_
  refine zm_ald_now C (by omega) dX6_speed_20 ?_
  have g3 : nw ((5 + 6 * (nw ((65 + 5 * t) + 2))) + 2) ≤ M := hB.j (by omega) (by omega)
  refine z_istore_n C [(2, .int (nI (nw ((5 + 6 * (nw ((65 + 5 * t) + 2))) + 2)))), (0, .ref (Ad 0)), (1, .int (nI t))] dX6_speed_21 (by decide) rfl ?_
  refine z_aload_n C dX6_speed_22 1 rfl ?_
  refine zm_get_now C hin k13 dX6_speed_23 ?_
  refine z_iload_n C dX6_speed_26 2 rfl ?_
  refine zs_call C (mX6_t l D κ t) gX6_speed_X6_t rfl rfl rfl hdX6_t ⟨Nat.le_of_ble_eq_true rfl, Nat.le_of_ble_eq_true rfl⟩ rfl (Nat.le_of_ble_eq_true rfl) dX6_speed_27 ⟨Nat.zero_le _, Nat.zero_le _⟩ ?_
  refine z_iconst (v := nI 1) C dX6_speed_30 (by decide) ?_
  refine zn_iadd C dX6_speed_31 ?_
  refine zm_ald_now C (by omega) dX6_speed_32 ?_
  have g4 : nw ((65 + 5 * t) + 1) ≤ M := hB.j (by omega) (by omega)
  refine z_iload_n C dX6_speed_33 0 rfl ?_
  refine zn_icmp_ge C 49 dX6_speed_34 (by decide) (by omega) (by omega) (fun h5 => ?_) (fun h6 => ?_)
  · refine z_iload_n C dX6_speed_49 0 rfl ?_
    exact z_iret C hr hk () (congrArg (fun x : Nat => some (Value.int (nI x))) (show spd nw t = nw ((5 + 6 * (nw ((65 + 5 * t) + 2))) + 2) by simp only [spd]; rw [if_neg (by omega)])) trivial (List.Perm.of_eq rfl) dX6_speed_50 (Nat.le_refl _) (Nat.le_refl _)
  · refine z_aload_n C dX6_speed_37 1 rfl ?_
    refine zm_get_now C hin k13 dX6_speed_38 ?_
    refine z_iload_n C dX6_speed_41 2 rfl ?_
    refine zs_call C (mX6_t l D κ t) gX6_speed_X6_t rfl rfl rfl hdX6_t ⟨Nat.le_of_ble_eq_true rfl, Nat.le_of_ble_eq_true rfl⟩ rfl (Nat.le_of_ble_eq_true rfl) dX6_speed_42 ⟨Nat.zero_le _, Nat.zero_le _⟩ ?_
    refine z_iconst (v := nI 1) C dX6_speed_45 (by decide) ?_
    refine zn_iadd C dX6_speed_46 ?_
    refine zm_ald_now C (by omega) dX6_speed_47 ?_
    have g7 : nw ((65 + 5 * t) + 1) ≤ M := hB.j (by omega) (by omega)
    exact z_iret C hr hk () (congrArg (fun x : Nat => some (Value.int (nI x))) (show spd nw t = nw ((65 + 5 * t) + 1) by simp only [spd]; rw [if_pos (by omega)])) trivial (List.Perm.of_eq rfl) dX6_speed_48 (Nat.le_refl _) (Nat.le_refl _)
theorem hdX6_speed : yX6_speed.cls = RX6 ∧ yX6_speed.cls ≠ "java/lang/invoke/MethodHandle" ∧ yX6_speed.cls ≠ "java/lang/invoke/VarHandle" ∧ (parseMethodDescriptor yX6_speed.desc).map (fun d => d.parameters.length) = some 1 := by decide +kernel
set_option maxRecDepth 100000 in
set_option maxHeartbeats 4000000 in
theorem mX6_isAtEnd (l : Launch) (D : va_G) (κ : Nat → ClassId) (Ad : Nat → Nat) (eo : Int32) (ip : Nat → Int32) (v nw aw od sv ot : Nat → Nat) (M : Nat) (t : Nat) (hB : Bd M nw) (ht : t < nw 2) : mM l yX6_isAtEnd wsX6_isAtEnd { frames := 1, cells := 0, slots := 0, locals := 20 } D κ Ad [.int (nI t)] eo ip v nw aw od sv ot (some (.int (nI (atE nw t).toNat))) eo ip v nw aw od sv ot := by
  refine zM_of (cc := cX6_isAtEnd) (maxL := 2) (rt := (some .boolean)) [(0, .ref (Ad 0)), (1, .int (nI t))] (by decide +kernel) rfl (Nat.le_of_ble_eq_true rfl) rfl ?_
  intro p e s m args below meth c A C hr hk hnm
  have C : zC p s m args c cX6_isAtEnd 2 wsX6_isAtEnd RX6 D (zTy κ) A := C
  have hin : ∀ w ∈ wsX60, w ∈ wsX6_isAtEnd := fun w h => List.mem_cons_of_mem _ (List.mem_append_right _ h)
  have k13 : Cond.fieldLink RX6 13 "PeatRailwayModel" "now" "[I" ∈ wsX6_isAtEnd := by decide +kernel
  obtain ⟨hM1, hM2, ht0, hnb, hnt, hj, hp⟩ := id hB
  refine z_aload_n C dX6_isAtEnd_0 0 rfl ?_
  refine zm_get_now C hin k13 dX6_isAtEnd_1 ?_
  refine z_iload_n C dX6_isAtEnd_4 1 rfl ?_
  refine zs_call C (mX6_t l D κ t) gX6_isAtEnd_X6_t rfl rfl rfl hdX6_t ⟨Nat.le_of_ble_eq_true rfl, Nat.le_of_ble_eq_true rfl⟩ rfl (Nat.le_of_ble_eq_true rfl) dX6_isAtEnd_5 ⟨Nat.zero_le _, Nat.zero_le _⟩ ?_
  refine z_iconst (v := nI 3) C dX6_isAtEnd_8 (by decide) ?_
  refine zn_iadd C dX6_isAtEnd_9 ?_
  refine zm_ald_now C (by omega) dX6_isAtEnd_10 ?_
  have g1 : nw ((65 + 5 * t) + 3) ≤ M := hB.j (by omega) (by omega)
  refine z_aload_n C dX6_isAtEnd_11 0 rfl ?_
  refine zm_get_now C hin k13 dX6_isAtEnd_12 ?_
  refine z_aload_n C dX6_isAtEnd_15 0 rfl ?_
  refine zm_get_now C hin k13 dX6_isAtEnd_16 ?_
  refine z_iload_n C dX6_isAtEnd_19 1 rfl ?_
  refine zs_call C (mX6_t l D κ t) gX6_isAtEnd_X6_t rfl rfl rfl hdX6_t ⟨Nat.le_of_ble_eq_true rfl, Nat.le_of_ble_eq_true rfl⟩ rfl (Nat.le_of_ble_eq_true rfl) dX6_isAtEnd_20 ⟨Nat.zero_le _, Nat.zero_le _⟩ ?_
  refine z_iconst (v := nI 2) C dX6_isAtEnd_23 (by decide) ?_
  refine zn_iadd C dX6_isAtEnd_24 ?_
  refine zm_ald_now C (by omega) dX6_isAtEnd_25 ?_
  have g2 : nw ((65 + 5 * t) + 2) ≤ M := hB.j (by omega) (by omega)
  have q3 : nw ((65 + 5 * t) + 2) < nw 1 := hB.p (t := t) (by omega)
  refine zs_call C (mX6_b l D κ (nw ((65 + 5 * t) + 2))) gX6_isAtEnd_X6_b rfl rfl rfl hdX6_b ⟨Nat.le_of_ble_eq_true rfl, Nat.le_of_ble_eq_true rfl⟩ rfl (Nat.le_of_ble_eq_true rfl) dX6_isAtEnd_26 ⟨Nat.zero_le _, Nat.zero_le _⟩ ?_
  refine z_iconst (v := nI 0) C dX6_isAtEnd_29 (by decide) ?_
  refine zn_iadd C dX6_isAtEnd_30 ?_
  refine zm_ald_now C (by omega) dX6_isAtEnd_31 ?_
  have g4 : nw ((5 + 6 * (nw ((65 + 5 * t) + 2))) + 0) ≤ M := hB.j (by omega) (by omega)
  refine zn_icmp_ne C 39 dX6_isAtEnd_32 (by decide) (by omega) (by omega) (fun h5 => ?_) (fun h6 => ?_)
  · refine z_iconst (v := nI 0) C dX6_isAtEnd_39 (by decide) ?_
    exact z_zret C hr hk (by decide) () (congrArg (fun x : Bool => some (Value.int (nI x.toNat))) (show atE nw t = false by simp only [atE]; exact decide_eq_false h5)) trivial (List.Perm.of_eq rfl) dX6_isAtEnd_40 (Nat.le_refl _) (Nat.le_refl _)
  · refine z_iconst (v := nI 1) C dX6_isAtEnd_35 (by decide) ?_
    refine z_goto (tgt := 40) C dX6_isAtEnd_36 (by decide) ?_
    exact z_zret C hr hk (by decide) () (congrArg (fun x : Bool => some (Value.int (nI x.toNat))) (show atE nw t = true by simp only [atE]; exact decide_eq_true h6)) trivial (List.Perm.of_eq rfl) dX6_isAtEnd_40 (Nat.le_refl _) (Nat.le_refl _)
theorem hdX6_isAtEnd : yX6_isAtEnd.cls = RX6 ∧ yX6_isAtEnd.cls ≠ "java/lang/invoke/MethodHandle" ∧ yX6_isAtEnd.cls ≠ "java/lang/invoke/VarHandle" ∧ (parseMethodDescriptor yX6_isAtEnd.desc).map (fun d => d.parameters.length) = some 1 := by decide +kernel
set_option maxRecDepth 100000 in
set_option maxHeartbeats 4000000 in
theorem mX6_mayEnter (l : Launch) (D : va_G) (κ : Nat → ClassId) (Ad : Nat → Nat) (eo : Int32) (ip : Nat → Int32) (v nw aw od sv ot : Nat → Nat) (M : Nat) (t : Nat) (hB : Bd M nw) (ht : t < nw 2) : mM l yX6_mayEnter wsX6_mayEnter { frames := 3, cells := 0, slots := 0, locals := 63 } D κ Ad [.int (nI t)] eo ip v nw aw od sv ot (some (.int (nI (mayE nw t).toNat))) eo ip v nw aw od sv ot := by
  refine zM_of (cc := cX6_mayEnter) (maxL := 3) (rt := (some .boolean)) [(0, .ref (Ad 0)), (1, .int (nI t))] (by decide +kernel) rfl (Nat.le_of_ble_eq_true rfl) rfl ?_
  intro p e s m args below meth c A C hr hk hnm
  have C : zC p s m args c cX6_mayEnter 3 wsX6_mayEnter RX6 D (zTy κ) A := C
  have hin : ∀ w ∈ wsX60, w ∈ wsX6_mayEnter := fun w h => List.mem_cons_of_mem _ (List.mem_append_right _ h)
  have k13 : Cond.fieldLink RX6 13 "PeatRailwayModel" "now" "[I" ∈ wsX6_mayEnter := by decide +kernel
  obtain ⟨hM1, hM2, ht0, hnb, hnt, hj, hp⟩ := id hB
  refine z_aload_n C dX6_mayEnter_0 0 rfl ?_
  refine z_aload_n C dX6_mayEnter_1 0 rfl ?_
  refine zm_get_now C hin k13 dX6_mayEnter_2 ?_
  refine z_iload_n C dX6_mayEnter_5 1 rfl ?_
  refine zs_call C (mX6_t l D κ t) gX6_mayEnter_X6_t rfl rfl rfl hdX6_t ⟨Nat.le_of_ble_eq_true rfl, Nat.le_of_ble_eq_true rfl⟩ rfl (Nat.le_of_ble_eq_true rfl) dX6_mayEnter_6 ⟨Nat.zero_le _, Nat.zero_le _⟩ ?_
  refine z_iconst (v := nI 2) C dX6_mayEnter_9 (by decide) ?_
  refine zn_iadd C dX6_mayEnter_10 ?_
  refine zm_ald_now C (by omega) dX6_mayEnter_11 ?_
  have g1 : nw ((65 + 5 * t) + 2) ≤ M := hB.j (by omega) (by omega)
  have q2 : nw ((65 + 5 * t) + 2) < nw 1 := hB.p (t := t) (by omega)
  refine zm_call C (mX6_after l D κ Ad _ _ _ _ _ _ _ _ M (nw ((65 + 5 * t) + 2)) hB (by omega)) gX6_mayEnter_X6_after rfl rfl rfl hdX6_after ⟨Nat.le_of_ble_eq_true rfl, Nat.le_of_ble_eq_true rfl⟩ rfl (Nat.le_of_ble_eq_true rfl) dX6_mayEnter_12 ⟨Nat.zero_le _, Nat.zero_le _⟩ ?_
  have haf2 : aft nw (nw (65 + 5 * t + 2)) < 22 := by simp only [aft]; split <;> omega
  refine z_istore_n C [(2, .int (nI (aft nw (nw ((65 + 5 * t) + 2))))), (0, .ref (Ad 0)), (1, .int (nI t))] dX6_mayEnter_15 (by decide) rfl ?_
  refine z_aload_n C dX6_mayEnter_16 1 rfl ?_
  refine zm_get_now C hin k13 dX6_mayEnter_17 ?_
  refine z_iload_n C dX6_mayEnter_20 0 rfl ?_
  refine zs_call C (mX6_b l D κ (aft nw (nw ((65 + 5 * t) + 2)))) gX6_mayEnter_X6_b rfl rfl rfl hdX6_b ⟨Nat.le_of_ble_eq_true rfl, Nat.le_of_ble_eq_true rfl⟩ rfl (Nat.le_of_ble_eq_true rfl) dX6_mayEnter_21 ⟨Nat.zero_le _, Nat.zero_le _⟩ ?_
  refine z_iconst (v := nI 4) C dX6_mayEnter_24 (by decide) ?_
  refine zn_iadd C dX6_mayEnter_25 ?_
  refine zm_ald_now C (by omega) dX6_mayEnter_26 ?_
  have g3 : nw ((5 + 6 * (aft nw (nw ((65 + 5 * t) + 2)))) + 4) ≤ M := hB.j (by omega) (by omega)
  refine z_iconst (v := nI 1) C dX6_mayEnter_27 (by decide) ?_
  refine zn_icmp_ne C 43 dX6_mayEnter_28 (by decide) (by omega) (by omega) (fun h4 => ?_) (fun h5 => ?_)
  · refine z_iconst (v := nI 0) C dX6_mayEnter_43 (by decide) ?_
    exact z_zret C hr hk (by decide) () (congrArg (fun x : Bool => some (Value.int (nI x.toNat))) (show mayE nw t = false by simp only [mayE]; rw [if_neg (by omega)])) trivial (List.Perm.of_eq rfl) dX6_mayEnter_44 (Nat.le_refl _) (Nat.le_refl _)
  · refine z_aload_n C dX6_mayEnter_31 1 rfl ?_
    refine z_iload_n C dX6_mayEnter_32 0 rfl ?_
    refine zm_call C (mX6_isOccupied l D κ Ad _ _ _ _ _ _ _ _ M (aft nw (nw ((65 + 5 * t) + 2))) hB (by omega)) gX6_mayEnter_X6_isOccupied rfl rfl rfl hdX6_isOccupied ⟨Nat.le_of_ble_eq_true rfl, Nat.le_of_ble_eq_true rfl⟩ rfl (Nat.le_of_ble_eq_true rfl) dX6_mayEnter_33 ⟨Nat.zero_le _, Nat.zero_le _⟩ ?_
    refine zb_if_ne C 43 dX6_mayEnter_36 (by decide) (fun h6 => ?_) (fun h7 => ?_)
    · refine z_iconst (v := nI 0) C dX6_mayEnter_43 (by decide) ?_
      exact z_zret C hr hk (by decide) () (congrArg (fun x : Bool => some (Value.int (nI x.toNat))) (show mayE nw t = false by simp only [mayE]; rw [if_pos (by omega), h6]; rfl)) trivial (List.Perm.of_eq rfl) dX6_mayEnter_44 (Nat.le_refl _) (Nat.le_refl _)
    · refine z_iconst (v := nI 1) C dX6_mayEnter_39 (by decide) ?_
      refine z_goto (tgt := 44) C dX6_mayEnter_40 (by decide) ?_
      exact z_zret C hr hk (by decide) () (congrArg (fun x : Bool => some (Value.int (nI x.toNat))) (show mayE nw t = true by simp only [mayE]; rw [if_pos (by omega), h7]; rfl)) trivial (List.Perm.of_eq rfl) dX6_mayEnter_44 (Nat.le_refl _) (Nat.le_refl _)
theorem hdX6_mayEnter : yX6_mayEnter.cls = RX6 ∧ yX6_mayEnter.cls ≠ "java/lang/invoke/MethodHandle" ∧ yX6_mayEnter.cls ≠ "java/lang/invoke/VarHandle" ∧ (parseMethodDescriptor yX6_mayEnter.desc).map (fun d => d.parameters.length) = some 1 := by decide +kernel
end M2
