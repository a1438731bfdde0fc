section M5
set_option maxRecDepth 100000 in
set_option maxHeartbeats 4000000 in
theorem mX6_forgetsOldest (l : Launch) (D : va_G) (κ : Nat → ClassId) (Ad : Nat → Nat) (eo : Int32) (ip : Nat → Int32) (v nw aw od sv ot : Nat → Nat)  (hv : 1 ≤ v 5) (hv2 : v 5 ≤ 10) : mM l yX6_forgetsOldest wsX6_forgetsOldest { frames := 0, cells := 0, slots := 0, locals := 0 } D κ Ad [] eo ip v nw aw od sv ot none eo ip (upN v 5 (v 5 - 1)) nw aw (fgF od) sv ot := by
  refine zM_of (cc := cX6_forgetsOldest) (maxL := 2) (rt := none) [(0, .ref (Ad 0))] (by decide +kernel) rfl (Nat.le_of_ble_eq_true rfl) rfl ?_
  intro p e s m args below meth c A C hr hk hnm
  have C : zC p s m args c cX6_forgetsOldest 2 wsX6_forgetsOldest RX6 D (zTy κ) A := C
  have hin : ∀ w ∈ wsX60, w ∈ wsX6_forgetsOldest := fun w h => List.mem_cons_of_mem _ (List.mem_append_right _ h)
  have k19 : Cond.fieldLink RX6 19 "PeatRailwayModel" "old" "[I" ∈ wsX6_forgetsOldest := by decide +kernel
  have k95 : Cond.fieldLink RX6 95 "PeatRailwayModel" "oldMany" "I" ∈ wsX6_forgetsOldest := by decide +kernel
  refine z_sipush (v := nI 140) C dX6_forgetsOldest_0 (by decide) ?_
  refine z_istore_n C [(1, .int (nI 140)), (0, .ref (Ad 0))] dX6_forgetsOldest_3 (by decide) rfl ?_
  refine z_lv [1, 0] rfl ?_
  refine z_loop (σ := Nat × (Nat → Nat)) (fun x => MW κ Ad eo ip v nw aw x.2 sv ot) (fun x => [(0, .ref (Ad 0)), (1, .int (nI x.1))]) (fun x => 140 ≤ x.1 ∧ x.1 ≤ 1400 ∧ ∀ j, x.2 j = if j + 140 < x.1 then od (j + 140) else od j) (fun x => 1400 - x.1) ((140, od)) (⟨Nat.le_refl _, (show (140 : Nat) ≤ 1400 by decide), fun j => by dsimp only; rw [if_neg (by omega)]⟩) rfl rfl ?_
  rintro ⟨k, τ⟩ hI4 ih4
  dsimp only at hI4 ih4 ⊢
  obtain ⟨hk1, hk2, hk3⟩ := hI4
  refine z_iload_n C dX6_forgetsOldest_4 1 rfl ?_
  refine z_sipush (v := nI 1400) C dX6_forgetsOldest_5 (by decide) ?_
  refine zn_icmp_ge C 33 dX6_forgetsOldest_8 (by decide) (by omega) (by omega) (fun h1 => ?_) (fun h2 => ?_)
  · refine zr_old (fgF od) (fg_end (by omega) hk3) ?_
    refine z_aload_n C dX6_forgetsOldest_33 0 rfl ?_
    refine z_dup C dX6_forgetsOldest_34 rfl ?_
    refine zm_get_oldMany C hin (x := v 5) k95 dX6_forgetsOldest_35 rfl ?_
    refine z_iconst (v := nI 1) C dX6_forgetsOldest_38 (by decide) ?_
    refine zn_isub C dX6_forgetsOldest_39 (by omega) ?_
    refine zm_put_oldMany C hin k95 dX6_forgetsOldest_40 ?_
    exact z_vret C hr hk () (rfl) trivial (List.Perm.of_eq rfl) dX6_forgetsOldest_43 (Nat.le_refl _) (Nat.le_refl _)
  · refine z_aload_n C dX6_forgetsOldest_11 0 rfl ?_
    refine zm_get_old C hin k19 dX6_forgetsOldest_12 ?_
    refine z_iload_n C dX6_forgetsOldest_15 1 rfl ?_
    refine z_sipush (v := nI 140) C dX6_forgetsOldest_16 (by decide) ?_
    refine zn_isub C dX6_forgetsOldest_19 (by omega) ?_
    refine z_aload_n C dX6_forgetsOldest_20 0 rfl ?_
    refine zm_get_old C hin k19 dX6_forgetsOldest_21 ?_
    refine z_iload_n C dX6_forgetsOldest_24 1 rfl ?_
    refine zm_ald_old C (by omega) dX6_forgetsOldest_25 ?_
    refine zm_ast_old C (by omega) dX6_forgetsOldest_26 ?_
    refine zn_iinc (n := 1) C [(1, .int (nI (k + 1))), (0, .ref (Ad 0))] dX6_forgetsOldest_27 1 rfl (by decide) rfl ?_
    refine z_goto (tgt := 4) C dX6_forgetsOldest_30 (by decide) ?_
    refine z_lv [1, 0] rfl ?_
    exact ih4 (k + 1, upN τ (k - 140) (τ k)) ⟨by dsimp only; omega, by dsimp only; omega, fun j => by dsimp only; exact fg_step hk1 hk3 rfl rfl j⟩ (by dsimp only; omega)
theorem hdX6_forgetsOldest : yX6_forgetsOldest.cls = RX6 ∧ yX6_forgetsOldest.cls ≠ "java/lang/invoke/MethodHandle" ∧ yX6_forgetsOldest.cls ≠ "java/lang/invoke/VarHandle" ∧ (parseMethodDescriptor yX6_forgetsOldest.desc).map (fun d => d.parameters.length) = some 0 := by decide +kernel
set_option maxRecDepth 100000 in
set_option maxHeartbeats 4000000 in
theorem mX6_remembers (l : Launch) (D : va_G) (κ : Nat → ClassId) (Ad : Nat → Nat) (eo : Int32) (ip : Nat → Int32) (v nw aw od sv ot : Nat → Nat) (h : Nat → Nat → Nat) (hv2 : v 5 ≤ 10) : mM l yX6_remembers wsX6_remembers { frames := 1, cells := 0, slots := 0, locals := 21 } D κ Ad [] eo ip v nw aw (hiF h) sv ot none eo ip (upN v 5 (rmN (v 5))) nw aw (hiF (rmH h (v 5) nw)) sv ot := by
  refine zM_of (cc := cX6_remembers) (maxL := 2) (rt := none) [(0, .ref (Ad 0))] (by decide +kernel) rfl (Nat.le_of_ble_eq_true rfl) rfl ?_
  intro p e s m args below meth c A C hr hk hnm
  have C : zC p s m args c cX6_remembers 2 wsX6_remembers RX6 D (zTy κ) A := C
  have hin : ∀ w ∈ wsX60, w ∈ wsX6_remembers := fun w h => List.mem_cons_of_mem _ (List.mem_append_right _ h)
  have k95 : Cond.fieldLink RX6 95 "PeatRailwayModel" "oldMany" "I" ∈ wsX6_remembers := by decide +kernel
  have k19 : Cond.fieldLink RX6 19 "PeatRailwayModel" "old" "[I" ∈ wsX6_remembers := by decide +kernel
  have k13 : Cond.fieldLink RX6 13 "PeatRailwayModel" "now" "[I" ∈ wsX6_remembers := by decide +kernel
  refine z_aload_n C dX6_remembers_0 0 rfl ?_
  refine zm_get_oldMany C hin (x := v 5) k95 dX6_remembers_1 rfl ?_
  refine z_bipush (v := nI 10) C dX6_remembers_4 (by decide) ?_
  refine zn_icmp_ne C 13 dX6_remembers_6 (by decide) (by omega) (by omega) (fun h1 => ?_) (fun h2 => ?_)
  · refine z_iconst (v := nI 0) C dX6_remembers_13 (by decide) ?_
    refine z_istore_n C [(1, .int (nI 0)), (0, .ref (Ad 0))] dX6_remembers_14 (by decide) rfl ?_
    refine z_lv [1, 0] rfl ?_
    refine z_loop (σ := Nat × (Nat → Nat)) (fun x => MW κ Ad eo ip v nw aw x.2 sv ot) (fun x => [(0, .ref (Ad 0)), (1, .int (nI x.1))]) (fun x => x.1 ≤ 140 ∧ ∀ j, x.2 j = if (v 5) * 140 ≤ j ∧ j < (v 5) * 140 + x.1 then nw (j - (v 5) * 140) else (hiF h) j) (fun x => 140 - x.1) ((0, hiF h)) (⟨Nat.zero_le _, fun j => by rw [if_neg (by omega)]⟩) rfl rfl ?_
    rintro ⟨k, τ⟩ hI15 ih15
    dsimp only at hI15 ih15 ⊢
    obtain ⟨hk1, hk2⟩ := hI15
    refine z_iload_n C dX6_remembers_15 1 rfl ?_
    refine z_sipush (v := nI 140) C dX6_remembers_16 (by decide) ?_
    refine zn_icmp_ge C 49 dX6_remembers_19 (by decide) (by omega) (by omega) (fun h3 => ?_) (fun h4 => ?_)
    · have hk9 : k = 140 := by omega
      subst hk9
      refine zr_old (hiF (rmH h (v 5) nw)) (rm_1 (by omega) hk2) ?_
      refine z_aload_n C dX6_remembers_49 0 rfl ?_
      refine z_dup C dX6_remembers_50 rfl ?_
      refine zm_get_oldMany C hin (x := v 5) k95 dX6_remembers_51 rfl ?_
      refine z_iconst (v := nI 1) C dX6_remembers_54 (by decide) ?_
      refine zn_iadd C dX6_remembers_55 ?_
      refine zm_put_oldMany C hin k95 dX6_remembers_56 ?_
      exact z_vret C hr hk () (rfl) trivial (List.Perm.of_eq (show MW κ Ad eo ip (upN v 5 ((v 5) + 1)) nw aw (hiF (rmH h (v 5) nw)) sv ot = MW κ Ad eo ip (upN v 5 (rmN (v 5))) nw aw (hiF (rmH h (v 5) nw)) sv ot from by rw [show rmN (v 5) = (v 5) + 1 from by simp only [rmN]; split <;> omega])) dX6_remembers_59 (Nat.le_refl _) (Nat.le_refl _)
    · refine z_aload_n C dX6_remembers_22 0 rfl ?_
      refine zm_get_old C hin k19 dX6_remembers_23 ?_
      refine z_aload_n C dX6_remembers_26 0 rfl ?_
      refine zm_get_oldMany C hin (x := v 5) k95 dX6_remembers_27 rfl ?_
      refine z_sipush (v := nI 140) C dX6_remembers_30 (by decide) ?_
      refine zn_imul C dX6_remembers_33 ?_
      refine z_iload_n C dX6_remembers_34 1 rfl ?_
      refine zn_iadd C dX6_remembers_35 ?_
      refine z_aload_n C dX6_remembers_36 0 rfl ?_
      refine zm_get_now C hin k13 dX6_remembers_37 ?_
      refine z_iload_n C dX6_remembers_40 1 rfl ?_
      refine zm_ald_now C (by omega) dX6_remembers_41 ?_
      refine zm_ast_old C (by omega) dX6_remembers_42 ?_
      refine zn_iinc (n := 1) C [(1, .int (nI (k + 1))), (0, .ref (Ad 0))] dX6_remembers_43 1 rfl (by decide) rfl ?_
      refine z_goto (tgt := 15) C dX6_remembers_46 (by decide) ?_
      refine z_lv [1, 0] rfl ?_
      exact ih15 (k + 1, upN τ (((v 5) * 140) + k) (nw k)) ⟨by dsimp only; omega, fun j => by dsimp only; exact cp_off hk2 rfl rfl j⟩ (by dsimp only; omega)
  · refine z_aload_n C dX6_remembers_9 0 rfl ?_
    refine zm_call C (mX6_forgetsOldest l D κ Ad _ _ _ _ _ _ _ _ (by omega) (by omega)) gX6_remembers_X6_forgetsOldest rfl rfl rfl hdX6_forgetsOldest ⟨Nat.le_of_ble_eq_true rfl, Nat.le_of_ble_eq_true rfl⟩ rfl (Nat.le_of_ble_eq_true rfl) dX6_remembers_10 ⟨Nat.zero_le _, Nat.zero_le _⟩ ?_
    refine z_iconst (v := nI 0) C dX6_remembers_13 (by decide) ?_
    refine z_istore_n C [(1, .int (nI 0)), (0, .ref (Ad 0))] dX6_remembers_14 (by decide) rfl ?_
    refine z_lv [1, 0] rfl ?_
    refine z_loop (σ := Nat × (Nat → Nat)) (fun x => MW κ Ad eo ip (upN v 5 (v 5 - 1)) nw aw x.2 sv ot) (fun x => [(0, .ref (Ad 0)), (1, .int (nI x.1))]) (fun x => x.1 ≤ 140 ∧ ∀ j, x.2 j = if (v 5 - 1) * 140 ≤ j ∧ j < (v 5 - 1) * 140 + x.1 then nw (j - (v 5 - 1) * 140) else (fgF (hiF h)) j) (fun x => 140 - x.1) ((0, fgF (hiF h))) (⟨Nat.zero_le _, fun j => by rw [if_neg (by omega)]⟩) rfl rfl ?_
    rintro ⟨k, τ⟩ hI15 ih15
    dsimp only at hI15 ih15 ⊢
    obtain ⟨hk1, hk2⟩ := hI15
    refine z_iload_n C dX6_remembers_15 1 rfl ?_
    refine z_sipush (v := nI 140) C dX6_remembers_16 (by decide) ?_
    refine zn_icmp_ge C 49 dX6_remembers_19 (by decide) (by omega) (by omega) (fun h5 => ?_) (fun h6 => ?_)
    · have hk9 : k = 140 := by omega
      subst hk9
      refine zr_old (hiF (rmH h (v 5) nw)) (rm_2 (by omega) (by omega) hk2) ?_
      refine z_aload_n C dX6_remembers_49 0 rfl ?_
      refine z_dup C dX6_remembers_50 rfl ?_
      refine zm_get_oldMany C hin (x := v 5 - 1) k95 dX6_remembers_51 rfl ?_
      refine z_iconst (v := nI 1) C dX6_remembers_54 (by decide) ?_
      refine zn_iadd C dX6_remembers_55 ?_
      refine zm_put_oldMany C hin k95 dX6_remembers_56 ?_
      exact z_vret C hr hk () (rfl) trivial (List.Perm.of_eq (show MW κ Ad eo ip (upN (upN v 5 (v 5 - 1)) 5 ((v 5 - 1) + 1)) nw aw (hiF (rmH h (v 5) nw)) sv ot = MW κ Ad eo ip (upN v 5 (rmN (v 5))) nw aw (hiF (rmH h (v 5) nw)) sv ot from by rw [show rmN (v 5) = (v 5 - 1) + 1 from by simp only [rmN]; split <;> omega]; rfl)) dX6_remembers_59 (Nat.le_refl _) (Nat.le_refl _)
    · refine z_aload_n C dX6_remembers_22 0 rfl ?_
      refine zm_get_old C hin k19 dX6_remembers_23 ?_
      refine z_aload_n C dX6_remembers_26 0 rfl ?_
      refine zm_get_oldMany C hin (x := v 5 - 1) k95 dX6_remembers_27 rfl ?_
      refine z_sipush (v := nI 140) C dX6_remembers_30 (by decide) ?_
      refine zn_imul C dX6_remembers_33 ?_
      refine z_iload_n C dX6_remembers_34 1 rfl ?_
      refine zn_iadd C dX6_remembers_35 ?_
      refine z_aload_n C dX6_remembers_36 0 rfl ?_
      refine zm_get_now C hin k13 dX6_remembers_37 ?_
      refine z_iload_n C dX6_remembers_40 1 rfl ?_
      refine zm_ald_now C (by omega) dX6_remembers_41 ?_
      refine zm_ast_old C (by omega) dX6_remembers_42 ?_
      refine zn_iinc (n := 1) C [(1, .int (nI (k + 1))), (0, .ref (Ad 0))] dX6_remembers_43 1 rfl (by decide) rfl ?_
      refine z_goto (tgt := 15) C dX6_remembers_46 (by decide) ?_
      refine z_lv [1, 0] rfl ?_
      exact ih15 (k + 1, upN τ (((v 5 - 1) * 140) + k) (nw k)) ⟨by dsimp only; omega, fun j => by dsimp only; exact cp_off hk2 rfl rfl j⟩ (by dsimp only; omega)
theorem hdX6_remembers : yX6_remembers.cls = RX6 ∧ yX6_remembers.cls ≠ "java/lang/invoke/MethodHandle" ∧ yX6_remembers.cls ≠ "java/lang/invoke/VarHandle" ∧ (parseMethodDescriptor yX6_remembers.desc).map (fun d => d.parameters.length) = some 0 := by decide +kernel
set_option maxRecDepth 100000 in
set_option maxHeartbeats 4000000 in
theorem mX6_lays (l : Launch) (D : va_G) (κ : Nat → ClassId) (Ad : Nat → Nat) (eo : Int32) (ip : Nat → Int32) (v nw aw od sv ot : Nat → Nat) (a b c0 d0 : Nat) (M : Nat) (hB : Bd M nw) (hb : nw 1 < 10) : mM l yX6_lays wsX6_lays { frames := 1, cells := 0, slots := 0, locals := 20 } D κ Ad [.int (nI a), .int (nI b), .int (nI c0), .int (nI d0)] eo ip v nw aw od sv ot none eo ip v (layS nw a b c0 d0) aw od sv ot := by
  refine zM_of (cc := cX6_lays) (maxL := 6) (rt := none) [(0, .ref (Ad 0)), (1, .int (nI a)), (2, .int (nI b)), (3, .int (nI c0)), (4, .int (nI d0))] (by decide +kernel) rfl (Nat.le_of_ble_eq_true rfl) rfl ?_
  intro p e s m args below meth c A C hr hk hnm
  have C : zC p s m args c cX6_lays 6 wsX6_lays RX6 D (zTy κ) A := C
  have hin : ∀ w ∈ wsX60, w ∈ wsX6_lays := fun w h => List.mem_cons_of_mem _ (List.mem_append_right _ h)
  have k13 : Cond.fieldLink RX6 13 "PeatRailwayModel" "now" "[I" ∈ wsX6_lays := by decide +kernel
  obtain ⟨hM1, hM2, ht0, hnb, hnt, hj, hp⟩ := id hB
  refine z_aload_n C dX6_lays_0 0 rfl ?_
  refine zm_get_now C hin k13 dX6_lays_1 ?_
  refine z_iconst (v := nI 1) C dX6_lays_4 (by decide) ?_
  refine zm_ald_now C (by omega) dX6_lays_5 ?_
  refine zs_call C (mX6_b l D κ (nw 1)) gX6_lays_X6_b rfl rfl rfl hdX6_b ⟨Nat.le_of_ble_eq_true rfl, Nat.le_of_ble_eq_true rfl⟩ rfl (Nat.le_of_ble_eq_true rfl) dX6_lays_6 ⟨Nat.zero_le _, Nat.zero_le _⟩ ?_
  refine z_istore C [(5, .int (nI (5 + 6 * (nw 1)))), (0, .ref (Ad 0)), (1, .int (nI a)), (2, .int (nI b)), (3, .int (nI c0)), (4, .int (nI d0))] dX6_lays_9 (by decide) rfl ?_
  refine z_aload_n C dX6_lays_11 1 rfl ?_
  refine zm_get_now C hin k13 dX6_lays_12 ?_
  refine z_iload C dX6_lays_15 0 rfl ?_
  refine z_iconst (v := nI 0) C dX6_lays_17 (by decide) ?_
  refine zn_iadd C dX6_lays_18 ?_
  refine z_iload_n C dX6_lays_19 2 rfl ?_
  refine zm_ast_now C (by omega) dX6_lays_20 ?_
  refine z_aload_n C dX6_lays_21 1 rfl ?_
  refine zm_get_now C hin k13 dX6_lays_22 ?_
  refine z_iload C dX6_lays_25 0 rfl ?_
  refine z_iconst (v := nI 1) C dX6_lays_27 (by decide) ?_
  refine zn_iadd C dX6_lays_28 ?_
  refine z_iload_n C dX6_lays_29 3 rfl ?_
  refine zm_ast_now C (by omega) dX6_lays_30 ?_
  refine z_aload_n C dX6_lays_31 1 rfl ?_
  refine zm_get_now C hin k13 dX6_lays_32 ?_
  refine z_iload C dX6_lays_35 0 rfl ?_
  refine z_iconst (v := nI 2) C dX6_lays_37 (by decide) ?_
  refine zn_iadd C dX6_lays_38 ?_
  refine z_iload_n C dX6_lays_39 4 rfl ?_
  refine zm_ast_now C (by omega) dX6_lays_40 ?_
  refine z_aload_n C dX6_lays_41 1 rfl ?_
  refine zm_get_now C hin k13 dX6_lays_42 ?_
  refine z_iload C dX6_lays_45 0 rfl ?_
  refine z_iconst (v := nI 3) C dX6_lays_47 (by decide) ?_
  refine zn_iadd C dX6_lays_48 ?_
  refine z_iload C dX6_lays_49 5 rfl ?_
  refine zm_ast_now C (by omega) dX6_lays_51 ?_
  refine z_aload_n C dX6_lays_52 1 rfl ?_
  refine zm_get_now C hin k13 dX6_lays_53 ?_
  refine z_iload C dX6_lays_56 0 rfl ?_
  refine z_iconst (v := nI 4) C dX6_lays_58 (by decide) ?_
  refine zn_iadd C dX6_lays_59 ?_
  refine z_iconst (v := nI 0) C dX6_lays_60 (by decide) ?_
  refine zm_ast_now C (by omega) dX6_lays_61 ?_
  refine z_aload_n C dX6_lays_62 1 rfl ?_
  refine zm_get_now C hin k13 dX6_lays_63 ?_
  refine z_iload C dX6_lays_66 0 rfl ?_
  refine z_iconst (v := nI 5) C dX6_lays_68 (by decide) ?_
  refine zn_iadd C dX6_lays_69 ?_
  refine z_iconst (v := nI 0) C dX6_lays_70 (by decide) ?_
  refine zm_ast_now C (by omega) dX6_lays_71 ?_
  refine z_aload_n C dX6_lays_72 1 rfl ?_
  refine zm_get_now C hin k13 dX6_lays_73 ?_
  refine z_iconst (v := nI 1) C dX6_lays_76 (by decide) ?_
  refine z_dup2 C dX6_lays_77 rfl rfl ?_
  refine zm_ald_now C (by omega) dX6_lays_78 ?_
  rw [show (upN (upN (upN (upN (upN (upN nw ((5 + 6 * (nw 1)) + 0) a) ((5 + 6 * (nw 1)) + 1) b) ((5 + 6 * (nw 1)) + 2) c0) ((5 + 6 * (nw 1)) + 3) d0) ((5 + 6 * (nw 1)) + 4) 0) ((5 + 6 * (nw 1)) + 5) 0) 1 = nw 1 from by rw [upN_n (by omega), upN_n (by omega), upN_n (by omega), upN_n (by omega), upN_n (by omega), upN_n (by omega)]]
  refine z_iconst (v := nI 1) C dX6_lays_79 (by decide) ?_
  refine zn_iadd C dX6_lays_80 ?_
  refine zm_ast_now C (by omega) dX6_lays_81 ?_
  exact z_vret C hr hk () (rfl) trivial (List.Perm.of_eq rfl) dX6_lays_82 (Nat.le_refl _) (Nat.le_refl _)
theorem hdX6_lays : yX6_lays.cls = RX6 ∧ yX6_lays.cls ≠ "java/lang/invoke/MethodHandle" ∧ yX6_lays.cls ≠ "java/lang/invoke/VarHandle" ∧ (parseMethodDescriptor yX6_lays.desc).map (fun d => d.parameters.length) = some 4 := by decide +kernel
set_option maxRecDepth 100000 in
set_option maxHeartbeats 4000000 in
theorem mX6_sets (l : Launch) (D : va_G) (κ : Nat → ClassId) (Ad : Nat → Nat) (eo : Int32) (ip : Nat → Int32) (v nw aw od sv ot : Nat → Nat) (a b c0 : Nat) (M : Nat) (hB : Bd M nw) (hb : nw 2 < 5) : mM l yX6_sets wsX6_sets { frames := 1, cells := 0, slots := 0, locals := 20 } D κ Ad [.int (nI a), .int (nI b), .int (nI c0)] eo ip v nw aw od sv ot none eo ip v (setS nw a b c0) aw od sv ot := by
  refine zM_of (cc := cX6_sets) (maxL := 5) (rt := none) [(0, .ref (Ad 0)), (1, .int (nI a)), (2, .int (nI b)), (3, .int (nI c0))] (by decide +kernel) rfl (Nat.le_of_ble_eq_true rfl) rfl ?_
  intro p e s m args below meth c A C hr hk hnm
  have C : zC p s m args c cX6_sets 5 wsX6_sets RX6 D (zTy κ) A := C
  have hin : ∀ w ∈ wsX60, w ∈ wsX6_sets := fun w h => List.mem_cons_of_mem _ (List.mem_append_right _ h)
  have k13 : Cond.fieldLink RX6 13 "PeatRailwayModel" "now" "[I" ∈ wsX6_sets := by decide +kernel
  obtain ⟨hM1, hM2, ht0, hnb, hnt, hj, hp⟩ := id hB
  refine z_aload_n C dX6_sets_0 0 rfl ?_
  refine zm_get_now C hin k13 dX6_sets_1 ?_
  refine z_iconst (v := nI 2) C dX6_sets_4 (by decide) ?_
  refine zm_ald_now C (by omega) dX6_sets_5 ?_
  refine zs_call C (mX6_t l D κ (nw 2)) gX6_sets_X6_t rfl rfl rfl hdX6_t ⟨Nat.le_of_ble_eq_true rfl, Nat.le_of_ble_eq_true rfl⟩ rfl (Nat.le_of_ble_eq_true rfl) dX6_sets_6 ⟨Nat.zero_le _, Nat.zero_le _⟩ ?_
  refine z_istore C [(4, .int (nI (65 + 5 * (nw 2)))), (0, .ref (Ad 0)), (1, .int (nI a)), (2, .int (nI b)), (3, .int (nI c0))] dX6_sets_9 (by decide) rfl ?_
  refine z_aload_n C dX6_sets_11 1 rfl ?_
  refine zm_get_now C hin k13 dX6_sets_12 ?_
  refine z_iload C dX6_sets_15 0 rfl ?_
  refine z_iconst (v := nI 0) C dX6_sets_17 (by decide) ?_
  refine zn_iadd C dX6_sets_18 ?_
  refine z_iload_n C dX6_sets_19 3 rfl ?_
  refine zm_ast_now C (by omega) dX6_sets_20 ?_
  refine z_aload_n C dX6_sets_21 1 rfl ?_
  refine zm_get_now C hin k13 dX6_sets_22 ?_
  refine z_iload C dX6_sets_25 0 rfl ?_
  refine z_iconst (v := nI 1) C dX6_sets_27 (by decide) ?_
  refine zn_iadd C dX6_sets_28 ?_
  refine z_iload_n C dX6_sets_29 4 rfl ?_
  refine zm_ast_now C (by omega) dX6_sets_30 ?_
  refine z_aload_n C dX6_sets_31 1 rfl ?_
  refine zm_get_now C hin k13 dX6_sets_32 ?_
  refine z_iload C dX6_sets_35 0 rfl ?_
  refine z_iconst (v := nI 2) C dX6_sets_37 (by decide) ?_
  refine zn_iadd C dX6_sets_38 ?_
  refine z_iload_n C dX6_sets_39 2 rfl ?_
  refine zm_ast_now C (by omega) dX6_sets_40 ?_
  refine z_aload_n C dX6_sets_41 1 rfl ?_
  refine zm_get_now C hin k13 dX6_sets_42 ?_
  refine z_iload C dX6_sets_45 0 rfl ?_
  refine z_iconst (v := nI 3) C dX6_sets_47 (by decide) ?_
  refine zn_iadd C dX6_sets_48 ?_
  refine z_iconst (v := nI 0) C dX6_sets_49 (by decide) ?_
  refine zm_ast_now C (by omega) dX6_sets_50 ?_
  refine z_aload_n C dX6_sets_51 1 rfl ?_
  refine zm_get_now C hin k13 dX6_sets_52 ?_
  refine z_iload C dX6_sets_55 0 rfl ?_
  refine z_iconst (v := nI 4) C dX6_sets_57 (by decide) ?_
  refine zn_iadd C dX6_sets_58 ?_
  refine z_iconst (v := nI 0) C dX6_sets_59 (by decide) ?_
  refine zm_ast_now C (by omega) dX6_sets_60 ?_
  refine z_aload_n C dX6_sets_61 1 rfl ?_
  refine zm_get_now C hin k13 dX6_sets_62 ?_
  refine z_iconst (v := nI 4) C dX6_sets_65 (by decide) ?_
  refine z_dup2 C dX6_sets_66 rfl rfl ?_
  refine zm_ald_now C (by omega) dX6_sets_67 ?_
  rw [show (upN (upN (upN (upN (upN nw ((65 + 5 * (nw 2)) + 0) b) ((65 + 5 * (nw 2)) + 1) c0) ((65 + 5 * (nw 2)) + 2) a) ((65 + 5 * (nw 2)) + 3) 0) ((65 + 5 * (nw 2)) + 4) 0) 4 = nw 4 from by rw [upN_n (by omega), upN_n (by omega), upN_n (by omega), upN_n (by omega), upN_n (by omega)]]
  refine z_iload_n C dX6_sets_68 3 rfl ?_
  refine zn_iadd C dX6_sets_69 ?_
  refine zm_ast_now C (by omega) dX6_sets_70 ?_
  refine z_aload_n C dX6_sets_71 1 rfl ?_
  refine zm_get_now C hin k13 dX6_sets_72 ?_
  refine z_iconst (v := nI 2) C dX6_sets_75 (by decide) ?_
  refine z_dup2 C dX6_sets_76 rfl rfl ?_
  refine zm_ald_now C (by omega) dX6_sets_77 ?_
  rw [show (upN (upN (upN (upN (upN (upN nw ((65 + 5 * (nw 2)) + 0) b) ((65 + 5 * (nw 2)) + 1) c0) ((65 + 5 * (nw 2)) + 2) a) ((65 + 5 * (nw 2)) + 3) 0) ((65 + 5 * (nw 2)) + 4) 0) 4 ((nw 4) + b)) 2 = nw 2 from by rw [upN_n (by omega), upN_n (by omega), upN_n (by omega), upN_n (by omega), upN_n (by omega), upN_n (by omega)]]
  refine z_iconst (v := nI 1) C dX6_sets_78 (by decide) ?_
  refine zn_iadd C dX6_sets_79 ?_
  refine zm_ast_now C (by omega) dX6_sets_80 ?_
  exact z_vret C hr hk () (rfl) trivial (List.Perm.of_eq rfl) dX6_sets_81 (Nat.le_refl _) (Nat.le_refl _)
theorem hdX6_sets : yX6_sets.cls = RX6 ∧ yX6_sets.cls ≠ "java/lang/invoke/MethodHandle" ∧ yX6_sets.cls ≠ "java/lang/invoke/VarHandle" ∧ (parseMethodDescriptor yX6_sets.desc).map (fun d => d.parameters.length) = some 3 := by decide +kernel
end M5
