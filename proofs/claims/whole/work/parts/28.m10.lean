section M10
set_option maxRecDepth 100000 in
set_option maxHeartbeats 4000000 in
theorem mX6_isLetter (l : Launch) (D : va_G) (κ : Nat → ClassId) (x : Int32)  : sM l yX6_isLetter wsX6_isLetter { frames := 0, cells := 0, slots := 0, locals := 0 } D κ [.int (x)] (some (.int (nI (isLt x).toNat))) := by
  refine zM_of (cc := cX6_isLetter) (maxL := 1) (rt := (some .boolean)) [(0, .int (x))] (by decide +kernel) rfl (Nat.le_of_ble_eq_true rfl) rfl ?_
  intro p e s m args below meth c A C hr hk hnm
  have C : zC p s m args c cX6_isLetter 1 wsX6_isLetter RX6 D (zTy κ) A := C
  refine z_iload_n C dX6_isLetter_0 0 rfl ?_
  refine z_bipush (v := nI 97) C dX6_isLetter_1 (by decide) ?_
  refine z_icmp_lt C 16 dX6_isLetter_3 (by decide) (fun h1 => ?_) (fun h2 => ?_)
  · refine z_iconst (v := nI 0) C dX6_isLetter_16 (by decide) ?_
    exact z_zret C hr hk (by decide) () (congrArg (fun b => some (Value.int (nI b.toNat))) (show isLt x = false from inI_lo x h1)) trivial (List.Perm.of_eq rfl) dX6_isLetter_17 (Nat.le_refl _) (Nat.le_refl _)
  · refine z_iload_n C dX6_isLetter_6 0 rfl ?_
    refine z_bipush (v := nI 122) C dX6_isLetter_7 (by decide) ?_
    refine z_icmp_gt C 16 dX6_isLetter_9 (by decide) (fun h3 => ?_) (fun h4 => ?_)
    · refine z_iconst (v := nI 0) C dX6_isLetter_16 (by decide) ?_
      exact z_zret C hr hk (by decide) () (congrArg (fun b => some (Value.int (nI b.toNat))) (show isLt x = false from inI_hi x h3)) trivial (List.Perm.of_eq rfl) dX6_isLetter_17 (Nat.le_refl _) (Nat.le_refl _)
    · refine z_iconst (v := nI 1) C dX6_isLetter_12 (by decide) ?_
      refine z_goto (tgt := 17) C dX6_isLetter_13 (by decide) ?_
      exact z_zret C hr hk (by decide) () (congrArg (fun b => some (Value.int (nI b.toNat))) (show isLt x = true from inI_n x h2 h4)) trivial (List.Perm.of_eq rfl) dX6_isLetter_17 (Nat.le_refl _) (Nat.le_refl _)
theorem hdX6_isLetter : yX6_isLetter.cls ≠ "java/lang/invoke/MethodHandle" ∧ yX6_isLetter.cls ≠ "java/lang/invoke/VarHandle" ∧ (parseMethodDescriptor yX6_isLetter.desc).map (fun d => d.parameters.length) = some 1 := by decide +kernel
set_option maxRecDepth 100000 in
set_option maxHeartbeats 4000000 in
theorem mX6_isDigit (l : Launch) (D : va_G) (κ : Nat → ClassId) (x : Int32)  : sM l yX6_isDigit wsX6_isDigit { frames := 0, cells := 0, slots := 0, locals := 0 } D κ [.int (x)] (some (.int (nI (isDg x).toNat))) := by
  refine zM_of (cc := cX6_isDigit) (maxL := 1) (rt := (some .boolean)) [(0, .int (x))] (by decide +kernel) rfl (Nat.le_of_ble_eq_true rfl) rfl ?_
  intro p e s m args below meth c A C hr hk hnm
  have C : zC p s m args c cX6_isDigit 1 wsX6_isDigit RX6 D (zTy κ) A := C
  refine z_iload_n C dX6_isDigit_0 0 rfl ?_
  refine z_bipush (v := nI 48) C dX6_isDigit_1 (by decide) ?_
  refine z_icmp_lt C 16 dX6_isDigit_3 (by decide) (fun h1 => ?_) (fun h2 => ?_)
  · refine z_iconst (v := nI 0) C dX6_isDigit_16 (by decide) ?_
    exact z_zret C hr hk (by decide) () (congrArg (fun b => some (Value.int (nI b.toNat))) (show isDg x = false from inI_lo x h1)) trivial (List.Perm.of_eq rfl) dX6_isDigit_17 (Nat.le_refl _) (Nat.le_refl _)
  · refine z_iload_n C dX6_isDigit_6 0 rfl ?_
    refine z_bipush (v := nI 57) C dX6_isDigit_7 (by decide) ?_
    refine z_icmp_gt C 16 dX6_isDigit_9 (by decide) (fun h3 => ?_) (fun h4 => ?_)
    · refine z_iconst (v := nI 0) C dX6_isDigit_16 (by decide) ?_
      exact z_zret C hr hk (by decide) () (congrArg (fun b => some (Value.int (nI b.toNat))) (show isDg x = false from inI_hi x h3)) trivial (List.Perm.of_eq rfl) dX6_isDigit_17 (Nat.le_refl _) (Nat.le_refl _)
    · refine z_iconst (v := nI 1) C dX6_isDigit_12 (by decide) ?_
      refine z_goto (tgt := 17) C dX6_isDigit_13 (by decide) ?_
      exact z_zret C hr hk (by decide) () (congrArg (fun b => some (Value.int (nI b.toNat))) (show isDg x = true from inI_n x h2 h4)) trivial (List.Perm.of_eq rfl) dX6_isDigit_17 (Nat.le_refl _) (Nat.le_refl _)
theorem hdX6_isDigit : yX6_isDigit.cls ≠ "java/lang/invoke/MethodHandle" ∧ yX6_isDigit.cls ≠ "java/lang/invoke/VarHandle" ∧ (parseMethodDescriptor yX6_isDigit.desc).map (fun d => d.parameters.length) = some 1 := by decide +kernel
set_option maxRecDepth 100000 in
set_option maxHeartbeats 4000000 in
theorem mX6_scansWord (l : Launch) (D : va_G) (κ : Nat → ClassId) (Ad : Nat → Nat) (eo : Int32) (ip : Nat → Int32) (v nw aw od sv ot : Nat → Nat) (g : Bool) (hn : v 14 ≤ 600) (ht : v 17 ≤ v 14) : mM l yX6_scansWord wsX6_scansWord { frames := 1, cells := 0, slots := 0, locals := 20 } D κ Ad [.int (nI (g).toNat)] eo ip v nw aw od sv ot none eo ip (upN (upN v 17 (scn isLt ip (v 14 - v 17) (v 17))) 15 (if g = true then 4 else 1)) nw aw od sv ot := by
  refine zM_of (cc := cX6_scansWord) (maxL := 2) (rt := none) [(0, .ref (Ad 0)), (1, .int (nI (g).toNat))] (by decide +kernel) rfl (Nat.le_of_ble_eq_true rfl) rfl ?_
  intro p e s m args below meth c A C hr hk hnm
  have C : zC p s m args c cX6_scansWord 2 wsX6_scansWord RX6 D (zTy κ) A := C
  have hin : ∀ w ∈ wsX60, w ∈ wsX6_scansWord := fun w h => List.mem_cons_of_mem _ (List.mem_append_right _ h)
  have k104 : Cond.fieldLink RX6 104 "PeatRailwayModel" "to" "I" ∈ wsX6_scansWord := by decide +kernel
  have k110 : Cond.fieldLink RX6 110 "PeatRailwayModel" "textEnd" "I" ∈ wsX6_scansWord := by decide +kernel
  have k25 : Cond.fieldLink RX6 25 "PeatRailwayModel" "input" "[B" ∈ wsX6_scansWord := by decide +kernel
  have k101 : Cond.fieldLink RX6 101 "PeatRailwayModel" "kind" "I" ∈ wsX6_scansWord := by decide +kernel
  refine z_lv [0, 1] rfl ?_
  refine z_loop (σ := Nat) (fun t => MW κ Ad eo ip (upN v 17 t) nw aw od sv ot) (fun t => [(0, .ref (Ad 0)), (1, .int (nI (g).toNat))]) (fun t => t ≤ v 14 ∧ v 17 ≤ t ∧ scn isLt ip (v 14 - t) t = scn isLt ip (v 14 - v 17) (v 17)) (fun t => v 14 - t) (v 17) (⟨ht, Nat.le_refl _, rfl⟩) rfl rfl ?_
  rintro t hI0 ih0
  obtain ⟨hk1, hk3, hk2⟩ := hI0
  refine z_aload_n C dX6_scansWord_0 0 rfl ?_
  refine zm_get_to C hin (x := t) k104 dX6_scansWord_1 rfl ?_
  refine z_aload_n C dX6_scansWord_4 0 rfl ?_
  refine zm_get_textEnd C hin (x := v 14) k110 dX6_scansWord_5 rfl ?_
  refine zn_icmp_ge C 39 dX6_scansWord_8 (by decide) (by omega) (by omega) (fun h1 => ?_) (fun h2 => ?_)
  · refine z_aload_n C dX6_scansWord_39 0 rfl ?_
    refine z_iconst (v := nI 1) C dX6_scansWord_40 (by decide) ?_
    refine zm_put_kind C hin k101 dX6_scansWord_41 ?_
    refine z_iload_n C dX6_scansWord_44 1 rfl ?_
    refine zb_if_eq C 53 dX6_scansWord_45 (by decide) (fun h3 => ?_) (fun h4 => ?_)
    · exact z_vret C hr hk () (rfl) trivial (List.Perm.of_eq (show MW κ Ad eo ip (upN (upN v 17 t) 15 1) nw aw od sv ot = MW κ Ad eo ip (upN (upN v 17 (scn isLt ip (v 14 - v 17) (v 17))) 15 (if g = true then 4 else 1)) nw aw od sv ot by rw [← hk2, scn_no (Or.inl h1), h3]; rfl)) dX6_scansWord_53 (Nat.le_refl _) (Nat.le_refl _)
    · refine z_aload_n C dX6_scansWord_48 0 rfl ?_
      refine z_iconst (v := nI 4) C dX6_scansWord_49 (by decide) ?_
      refine zm_put_kind C hin k101 dX6_scansWord_50 ?_
      exact z_vret C hr hk () (rfl) trivial (List.Perm.of_eq (show MW κ Ad eo ip (upN (upN (upN v 17 t) 15 1) 15 4) nw aw od sv ot = MW κ Ad eo ip (upN (upN v 17 (scn isLt ip (v 14 - v 17) (v 17))) 15 (if g = true then 4 else 1)) nw aw od sv ot by rw [← hk2, scn_no (Or.inl h1), h4]; rfl)) dX6_scansWord_53 (Nat.le_refl _) (Nat.le_refl _)
  · refine z_aload_n C dX6_scansWord_11 0 rfl ?_
    refine zm_get_input C hin k25 dX6_scansWord_12 ?_
    refine z_aload_n C dX6_scansWord_15 0 rfl ?_
    refine zm_get_to C hin (x := t) k104 dX6_scansWord_16 rfl ?_
    refine zm_ald_input C (by omega) dX6_scansWord_19 ?_
    refine zs_call C (mX6_isLetter l D κ ((ip t))) gX6_scansWord_X6_isLetter rfl rfl rfl hdX6_isLetter ⟨Nat.le_of_ble_eq_true rfl, Nat.le_of_ble_eq_true rfl⟩ rfl (Nat.le_of_ble_eq_true rfl) dX6_scansWord_20 ⟨Nat.zero_le _, Nat.zero_le _⟩ ?_
    refine zb_if_eq C 39 dX6_scansWord_23 (by decide) (fun h5 => ?_) (fun h6 => ?_)
    · refine z_aload_n C dX6_scansWord_39 0 rfl ?_
      refine z_iconst (v := nI 1) C dX6_scansWord_40 (by decide) ?_
      refine zm_put_kind C hin k101 dX6_scansWord_41 ?_
      refine z_iload_n C dX6_scansWord_44 1 rfl ?_
      refine zb_if_eq C 53 dX6_scansWord_45 (by decide) (fun h7 => ?_) (fun h8 => ?_)
      · exact z_vret C hr hk () (rfl) trivial (List.Perm.of_eq (show MW κ Ad eo ip (upN (upN v 17 t) 15 1) nw aw od sv ot = MW κ Ad eo ip (upN (upN v 17 (scn isLt ip (v 14 - v 17) (v 17))) 15 (if g = true then 4 else 1)) nw aw od sv ot by rw [← hk2, scn_no (Or.inr h5), h7]; rfl)) dX6_scansWord_53 (Nat.le_refl _) (Nat.le_refl _)
      · refine z_aload_n C dX6_scansWord_48 0 rfl ?_
        refine z_iconst (v := nI 4) C dX6_scansWord_49 (by decide) ?_
        refine zm_put_kind C hin k101 dX6_scansWord_50 ?_
        exact z_vret C hr hk () (rfl) trivial (List.Perm.of_eq (show MW κ Ad eo ip (upN (upN (upN v 17 t) 15 1) 15 4) nw aw od sv ot = MW κ Ad eo ip (upN (upN v 17 (scn isLt ip (v 14 - v 17) (v 17))) 15 (if g = true then 4 else 1)) nw aw od sv ot by rw [← hk2, scn_no (Or.inr h5), h8]; rfl)) dX6_scansWord_53 (Nat.le_refl _) (Nat.le_refl _)
    · refine z_aload_n C dX6_scansWord_26 0 rfl ?_
      refine z_dup C dX6_scansWord_27 rfl ?_
      refine zm_get_to C hin (x := t) k104 dX6_scansWord_28 rfl ?_
      refine z_iconst (v := nI 1) C dX6_scansWord_31 (by decide) ?_
      refine zn_iadd C dX6_scansWord_32 ?_
      refine zm_put_to C hin k104 dX6_scansWord_33 ?_
      refine z_goto (tgt := 0) C dX6_scansWord_36 (by decide) ?_
      refine z_lv [0, 1] rfl ?_
      exact ih0 (t + 1) ⟨by omega, by omega, by rw [← hk2]; exact (scn_go (by omega) h6).symm⟩ (by omega)
theorem hdX6_scansWord : yX6_scansWord.cls = RX6 ∧ yX6_scansWord.cls ≠ "java/lang/invoke/MethodHandle" ∧ yX6_scansWord.cls ≠ "java/lang/invoke/VarHandle" ∧ (parseMethodDescriptor yX6_scansWord.desc).map (fun d => d.parameters.length) = some 1 := by decide +kernel
set_option maxRecDepth 100000 in
set_option maxHeartbeats 4000000 in
theorem mX6_scansNumber (l : Launch) (D : va_G) (κ : Nat → ClassId) (Ad : Nat → Nat) (eo : Int32) (ip : Nat → Int32) (v nw aw od sv ot : Nat → Nat) (g : Bool) (hn : v 14 ≤ 600) (ht : v 17 ≤ v 14) (hf : v 16 = v 17) : mM l yX6_scansNumber wsX6_scansNumber { frames := 1, cells := 0, slots := 0, locals := 20 } D κ Ad [.int (nI (g).toNat)] eo ip v nw aw od sv ot none eo ip (upN (upN (upN v 18 (numV ip (v 17) (min (scn isDg ip (v 14 - v 17) (v 17) - v 17) 3))) 17 (scn isDg ip (v 14 - v 17) (v 17))) 15 (if g = true ∨ 3 < scn isDg ip (v 14 - v 17) (v 17) - v 17 then 4 else 2)) nw aw od sv ot := by
  refine zM_of (cc := cX6_scansNumber) (maxL := 2) (rt := none) [(0, .ref (Ad 0)), (1, .int (nI (g).toNat))] (by decide +kernel) rfl (Nat.le_of_ble_eq_true rfl) rfl ?_
  intro p e s m args below meth c A C hr hk hnm
  have C : zC p s m args c cX6_scansNumber 2 wsX6_scansNumber RX6 D (zTy κ) A := C
  have hin : ∀ w ∈ wsX60, w ∈ wsX6_scansNumber := fun w h => List.mem_cons_of_mem _ (List.mem_append_right _ h)
  have k126 : Cond.fieldLink RX6 126 "PeatRailwayModel" "value" "I" ∈ wsX6_scansNumber := by decide +kernel
  have k104 : Cond.fieldLink RX6 104 "PeatRailwayModel" "to" "I" ∈ wsX6_scansNumber := by decide +kernel
  have k110 : Cond.fieldLink RX6 110 "PeatRailwayModel" "textEnd" "I" ∈ wsX6_scansNumber := by decide +kernel
  have k25 : Cond.fieldLink RX6 25 "PeatRailwayModel" "input" "[B" ∈ wsX6_scansNumber := by decide +kernel
  have k107 : Cond.fieldLink RX6 107 "PeatRailwayModel" "from" "I" ∈ wsX6_scansNumber := by decide +kernel
  have k101 : Cond.fieldLink RX6 101 "PeatRailwayModel" "kind" "I" ∈ wsX6_scansNumber := by decide +kernel
  refine z_aload_n C dX6_scansNumber_0 0 rfl ?_
  refine z_iconst (v := nI 0) C dX6_scansNumber_1 (by decide) ?_
  refine zm_put_value C hin k126 dX6_scansNumber_2 ?_
  refine z_lv [0, 1] rfl ?_
  refine z_loop (σ := Nat × Nat) (fun x => MW κ Ad eo ip (upN (upN v 18 x.2) 17 x.1) nw aw od sv ot) (fun x => [(0, .ref (Ad 0)), (1, .int (nI (g).toNat))]) (fun x => x.1 ≤ v 14 ∧ v 17 ≤ x.1 ∧ scn isDg ip (v 14 - x.1) x.1 = scn isDg ip (v 14 - v 17) (v 17) ∧ x.2 = numV ip (v 17) (min (x.1 - v 17) 3) ∧ x.2 ≤ 999) (fun x => v 14 - x.1) ((v 17, 0)) (⟨ht, Nat.le_refl _, rfl, by dsimp only; rw [Nat.sub_self]; rfl, Nat.zero_le _⟩) rfl rfl ?_
  rintro ⟨t, q⟩ hI5 ih5
  dsimp only at hI5 ih5 ⊢
  obtain ⟨hk1, hk3, hk2, hk4, hk5⟩ := hI5
  refine z_aload_n C dX6_scansNumber_5 0 rfl ?_
  refine zm_get_to C hin (x := t) k104 dX6_scansNumber_6 rfl ?_
  refine z_aload_n C dX6_scansNumber_9 0 rfl ?_
  refine zm_get_textEnd C hin (x := v 14) k110 dX6_scansNumber_10 rfl ?_
  refine zn_icmp_ge C 81 dX6_scansNumber_13 (by decide) (by omega) (by omega) (fun h1 => ?_) (fun h2 => ?_)
  · refine z_aload_n C dX6_scansNumber_81 0 rfl ?_
    refine z_iconst (v := nI 2) C dX6_scansNumber_82 (by decide) ?_
    refine zm_put_kind C hin k101 dX6_scansNumber_83 ?_
    refine z_iload_n C dX6_scansNumber_86 1 rfl ?_
    refine zb_if_ne C 103 dX6_scansNumber_87 (by decide) (fun h3 => ?_) (fun h4 => ?_)
    · refine z_aload_n C dX6_scansNumber_103 0 rfl ?_
      refine z_iconst (v := nI 4) C dX6_scansNumber_104 (by decide) ?_
      refine zm_put_kind C hin k101 dX6_scansNumber_105 ?_
      exact z_vret C hr hk () (rfl) trivial (List.Perm.of_eq (show MW κ Ad eo ip (upN (upN (upN (upN v 18 q) 17 t) 15 2) 15 4) nw aw od sv ot = MW κ Ad eo ip (upN (upN (upN v 18 (numV ip (v 17) (min (scn isDg ip (v 14 - v 17) (v 17) - v 17) 3))) 17 (scn isDg ip (v 14 - v 17) (v 17))) 15 (if g = true ∨ 3 < scn isDg ip (v 14 - v 17) (v 17) - v 17 then 4 else 2)) nw aw od sv ot by rw [← hk2, scn_no (Or.inl h1), ← hk4]; rw [if_pos (by first | exact Or.inl (by assumption) | exact Or.inr (by omega))]; try rfl)) dX6_scansNumber_108 (Nat.le_refl _) (Nat.le_refl _)
    · refine z_aload_n C dX6_scansNumber_90 0 rfl ?_
      refine zm_get_to C hin (x := t) k104 dX6_scansNumber_91 rfl ?_
      refine z_aload_n C dX6_scansNumber_94 0 rfl ?_
      refine zm_get_from C hin (x := v 16) k107 dX6_scansNumber_95 rfl ?_
      refine zn_isub C dX6_scansNumber_98 (by omega) ?_
      refine z_iconst (v := nI 3) C dX6_scansNumber_99 (by decide) ?_
      refine zn_icmp_le C 108 dX6_scansNumber_100 (by decide) (by omega) (by omega) (fun h5 => ?_) (fun h6 => ?_)
      · exact z_vret C hr hk () (rfl) trivial (List.Perm.of_eq (show MW κ Ad eo ip (upN (upN (upN v 18 q) 17 t) 15 2) nw aw od sv ot = MW κ Ad eo ip (upN (upN (upN v 18 (numV ip (v 17) (min (scn isDg ip (v 14 - v 17) (v 17) - v 17) 3))) 17 (scn isDg ip (v 14 - v 17) (v 17))) 15 (if g = true ∨ 3 < scn isDg ip (v 14 - v 17) (v 17) - v 17 then 4 else 2)) nw aw od sv ot by rw [← hk2, scn_no (Or.inl h1), ← hk4]; rw [if_neg (fun z => z.elim (fun y => by rw [h4] at y; exact absurd y (by decide)) (fun y => by omega))]; try rfl)) dX6_scansNumber_108 (Nat.le_refl _) (Nat.le_refl _)
      · refine z_aload_n C dX6_scansNumber_103 0 rfl ?_
        refine z_iconst (v := nI 4) C dX6_scansNumber_104 (by decide) ?_
        refine zm_put_kind C hin k101 dX6_scansNumber_105 ?_
        exact z_vret C hr hk () (rfl) trivial (List.Perm.of_eq (show MW κ Ad eo ip (upN (upN (upN (upN v 18 q) 17 t) 15 2) 15 4) nw aw od sv ot = MW κ Ad eo ip (upN (upN (upN v 18 (numV ip (v 17) (min (scn isDg ip (v 14 - v 17) (v 17) - v 17) 3))) 17 (scn isDg ip (v 14 - v 17) (v 17))) 15 (if g = true ∨ 3 < scn isDg ip (v 14 - v 17) (v 17) - v 17 then 4 else 2)) nw aw od sv ot by rw [← hk2, scn_no (Or.inl h1), ← hk4]; rw [if_pos (by first | exact Or.inl (by assumption) | exact Or.inr (by omega))]; try rfl)) dX6_scansNumber_108 (Nat.le_refl _) (Nat.le_refl _)
  · refine z_aload_n C dX6_scansNumber_16 0 rfl ?_
    refine zm_get_input C hin k25 dX6_scansNumber_17 ?_
    refine z_aload_n C dX6_scansNumber_20 0 rfl ?_
    refine zm_get_to C hin (x := t) k104 dX6_scansNumber_21 rfl ?_
    refine zm_ald_input C (by omega) dX6_scansNumber_24 ?_
    refine zs_call C (mX6_isDigit l D κ ((ip t))) gX6_scansNumber_X6_isDigit rfl rfl rfl hdX6_isDigit ⟨Nat.le_of_ble_eq_true rfl, Nat.le_of_ble_eq_true rfl⟩ rfl (Nat.le_of_ble_eq_true rfl) dX6_scansNumber_25 ⟨Nat.zero_le _, Nat.zero_le _⟩ ?_
    refine zb_if_eq C 81 dX6_scansNumber_28 (by decide) (fun h7 => ?_) (fun h8 => ?_)
    · refine z_aload_n C dX6_scansNumber_81 0 rfl ?_
      refine z_iconst (v := nI 2) C dX6_scansNumber_82 (by decide) ?_
      refine zm_put_kind C hin k101 dX6_scansNumber_83 ?_
      refine z_iload_n C dX6_scansNumber_86 1 rfl ?_
      refine zb_if_ne C 103 dX6_scansNumber_87 (by decide) (fun h9 => ?_) (fun h10 => ?_)
      · refine z_aload_n C dX6_scansNumber_103 0 rfl ?_
        refine z_iconst (v := nI 4) C dX6_scansNumber_104 (by decide) ?_
        refine zm_put_kind C hin k101 dX6_scansNumber_105 ?_
        exact z_vret C hr hk () (rfl) trivial (List.Perm.of_eq (show MW κ Ad eo ip (upN (upN (upN (upN v 18 q) 17 t) 15 2) 15 4) nw aw od sv ot = MW κ Ad eo ip (upN (upN (upN v 18 (numV ip (v 17) (min (scn isDg ip (v 14 - v 17) (v 17) - v 17) 3))) 17 (scn isDg ip (v 14 - v 17) (v 17))) 15 (if g = true ∨ 3 < scn isDg ip (v 14 - v 17) (v 17) - v 17 then 4 else 2)) nw aw od sv ot by rw [← hk2, scn_no (Or.inr h7), ← hk4]; rw [if_pos (by first | exact Or.inl (by assumption) | exact Or.inr (by omega))]; try rfl)) dX6_scansNumber_108 (Nat.le_refl _) (Nat.le_refl _)
      · refine z_aload_n C dX6_scansNumber_90 0 rfl ?_
        refine zm_get_to C hin (x := t) k104 dX6_scansNumber_91 rfl ?_
        refine z_aload_n C dX6_scansNumber_94 0 rfl ?_
        refine zm_get_from C hin (x := v 16) k107 dX6_scansNumber_95 rfl ?_
        refine zn_isub C dX6_scansNumber_98 (by omega) ?_
        refine z_iconst (v := nI 3) C dX6_scansNumber_99 (by decide) ?_
        refine zn_icmp_le C 108 dX6_scansNumber_100 (by decide) (by omega) (by omega) (fun h11 => ?_) (fun h12 => ?_)
        · exact z_vret C hr hk () (rfl) trivial (List.Perm.of_eq (show MW κ Ad eo ip (upN (upN (upN v 18 q) 17 t) 15 2) nw aw od sv ot = MW κ Ad eo ip (upN (upN (upN v 18 (numV ip (v 17) (min (scn isDg ip (v 14 - v 17) (v 17) - v 17) 3))) 17 (scn isDg ip (v 14 - v 17) (v 17))) 15 (if g = true ∨ 3 < scn isDg ip (v 14 - v 17) (v 17) - v 17 then 4 else 2)) nw aw od sv ot by rw [← hk2, scn_no (Or.inr h7), ← hk4]; rw [if_neg (fun z => z.elim (fun y => by rw [h10] at y; exact absurd y (by decide)) (fun y => by omega))]; try rfl)) dX6_scansNumber_108 (Nat.le_refl _) (Nat.le_refl _)
        · refine z_aload_n C dX6_scansNumber_103 0 rfl ?_
          refine z_iconst (v := nI 4) C dX6_scansNumber_104 (by decide) ?_
          refine zm_put_kind C hin k101 dX6_scansNumber_105 ?_
          exact z_vret C hr hk () (rfl) trivial (List.Perm.of_eq (show MW κ Ad eo ip (upN (upN (upN (upN v 18 q) 17 t) 15 2) 15 4) nw aw od sv ot = MW κ Ad eo ip (upN (upN (upN v 18 (numV ip (v 17) (min (scn isDg ip (v 14 - v 17) (v 17) - v 17) 3))) 17 (scn isDg ip (v 14 - v 17) (v 17))) 15 (if g = true ∨ 3 < scn isDg ip (v 14 - v 17) (v 17) - v 17 then 4 else 2)) nw aw od sv ot by rw [← hk2, scn_no (Or.inr h7), ← hk4]; rw [if_pos (by first | exact Or.inl (by assumption) | exact Or.inr (by omega))]; try rfl)) dX6_scansNumber_108 (Nat.le_refl _) (Nat.le_refl _)
    · have hdg0 : isDg (ip t) = true := h8
      obtain ⟨d, hd1, hd2, hd⟩ := isDg_of hdg0
      refine z_aload_n C dX6_scansNumber_31 0 rfl ?_
      refine zm_get_to C hin (x := t) k104 dX6_scansNumber_32 rfl ?_
      refine z_aload_n C dX6_scansNumber_35 0 rfl ?_
      refine zm_get_from C hin (x := v 16) k107 dX6_scansNumber_36 rfl ?_
      refine zn_isub C dX6_scansNumber_39 (by omega) ?_
      refine z_iconst (v := nI 3) C dX6_scansNumber_40 (by decide) ?_
      refine zn_icmp_ge C 68 dX6_scansNumber_41 (by decide) (by omega) (by omega) (fun h13 => ?_) (fun h14 => ?_)
      · have qsame : q = numV ip (v 17) (min (t + 1 - v 17) 3) := by rw [hk4, show min (t + 1 - v 17) 3 = min (t - v 17) 3 by omega]
        refine z_aload_n C dX6_scansNumber_68 0 rfl ?_
        refine z_dup C dX6_scansNumber_69 rfl ?_
        refine zm_get_to C hin (x := t) k104 dX6_scansNumber_70 rfl ?_
        refine z_iconst (v := nI 1) C dX6_scansNumber_73 (by decide) ?_
        refine zn_iadd C dX6_scansNumber_74 ?_
        refine zm_put_to C hin k104 dX6_scansNumber_75 ?_
        refine z_goto (tgt := 5) C dX6_scansNumber_78 (by decide) ?_
        refine z_lv [0, 1] rfl ?_
        exact ih5 (t + 1, q) ⟨by dsimp only; omega, by dsimp only; omega, by dsimp only; rw [← hk2]; exact (scn_go (by omega) hdg0).symm, qsame, hk5⟩ (by dsimp only; omega)
      · refine z_aload_n C dX6_scansNumber_44 0 rfl ?_
        refine z_bipush (v := nI 10) C dX6_scansNumber_45 (by decide) ?_
        refine z_aload_n C dX6_scansNumber_47 0 rfl ?_
        refine zm_get_value C hin (x := q) k126 dX6_scansNumber_48 rfl ?_
        refine zn_imul C dX6_scansNumber_51 ?_
        refine z_aload_n C dX6_scansNumber_52 0 rfl ?_
        refine zm_get_input C hin k25 dX6_scansNumber_53 ?_
        refine z_aload_n C dX6_scansNumber_56 0 rfl ?_
        refine zm_get_to C hin (x := t) k104 dX6_scansNumber_57 rfl ?_
        refine zm_ald_input C (by omega) dX6_scansNumber_60 ?_
        rw [hd]
        refine zn_iadd C dX6_scansNumber_61 ?_
        refine z_bipush (v := nI 48) C dX6_scansNumber_62 (by decide) ?_
        refine zn_isub C dX6_scansNumber_64 (by omega) ?_
        refine zm_put_value C hin k126 dX6_scansNumber_65 ?_
        have qnew : ((10 * q) + d) - 48 = numV ip (v 17) (min (t + 1 - v 17) 3) := by
          rw [show min (t + 1 - v 17) 3 = min (t - v 17) 3 + 1 by omega]
          simp only [numV]
          rw [← hk4, show v 17 + min (t - v 17) 3 = t by omega, hd, dgN_nI (by omega)]
          omega
        have qle : ((10 * q) + d) - 48 ≤ 999 := by
          rw [hk4, show min (t - v 17) 3 = t - v 17 by omega]
          have h9 : numV ip (v 17) (t - v 17) < 10 ^ (t - v 17) := numV_le _ (fun j hj => scn_all isDg ip (v 14 - v 17) (v 17) (v 17 + j) (by omega) (by have := scn_ge isDg ip (v 14 - t) t; omega))
          have h8 : 10 ^ (t - v 17) ≤ 10 ^ 2 := Nat.pow_le_pow_right (by decide) (by omega)
          omega
        refine z_aload_n C dX6_scansNumber_68 0 rfl ?_
        refine z_dup C dX6_scansNumber_69 rfl ?_
        refine zm_get_to C hin (x := t) k104 dX6_scansNumber_70 rfl ?_
        refine z_iconst (v := nI 1) C dX6_scansNumber_73 (by decide) ?_
        refine zn_iadd C dX6_scansNumber_74 ?_
        refine zm_put_to C hin k104 dX6_scansNumber_75 ?_
        refine z_goto (tgt := 5) C dX6_scansNumber_78 (by decide) ?_
        refine z_lv [0, 1] rfl ?_
        exact ih5 (t + 1, ((10 * q) + d) - 48) ⟨by dsimp only; omega, by dsimp only; omega, by dsimp only; rw [← hk2]; exact (scn_go (by omega) hdg0).symm, qnew, qle⟩ (by dsimp only; omega)
theorem hdX6_scansNumber : yX6_scansNumber.cls = RX6 ∧ yX6_scansNumber.cls ≠ "java/lang/invoke/MethodHandle" ∧ yX6_scansNumber.cls ≠ "java/lang/invoke/VarHandle" ∧ (parseMethodDescriptor yX6_scansNumber.desc).map (fun d => d.parameters.length) = some 1 := by decide +kernel
end M10
