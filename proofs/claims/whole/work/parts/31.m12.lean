section M12
set_option maxRecDepth 100000 in
set_option maxHeartbeats 4000000 in
theorem mX6_errs_0 (l : Launch) (D : va_G) (κ : Nat → ClassId) (Ad : Nat → Nat) (eo : Int32) (ip : Nat → Int32) (v nw aw od sv ot : Nat → Nat) (c0 : Nat) (h0 : v 19 = 0) : mM l yX6_errs wsX6_errs { frames := 0, cells := 0, slots := 0, locals := 0 } D κ Ad [.int (nI c0)] eo ip v nw aw od sv ot none eo ip (upN (upN v 19 c0) 20 (v 16)) nw aw od sv ot := by
  refine zM_of (cc := cX6_errs) (maxL := 2) (rt := none) [(0, .ref (Ad 0)), (1, .int (nI c0))] (by decide +kernel) rfl (Nat.le_of_ble_eq_true rfl) rfl ?_
  intro p e s m args below meth c A C hr hk hnm
  have C : zC p s m args c cX6_errs 2 wsX6_errs RX6 D (zTy κ) A := C
  have hin : ∀ w ∈ wsX60, w ∈ wsX6_errs := fun w h => List.mem_cons_of_mem _ (List.mem_append_right _ h)
  have k129 : Cond.fieldLink RX6 129 "PeatRailwayModel" "fault" "I" ∈ wsX6_errs := by decide +kernel
  have k107 : Cond.fieldLink RX6 107 "PeatRailwayModel" "from" "I" ∈ wsX6_errs := by decide +kernel
  have k132 : Cond.fieldLink RX6 132 "PeatRailwayModel" "faultAt" "I" ∈ wsX6_errs := by decide +kernel
  refine z_aload_n C dX6_errs_0 0 rfl ?_
  refine zm_get_fault C hin (x := v 19) k129 dX6_errs_1 rfl ?_
  rw [h0]
  refine z_if_ne C 20 dX6_errs_4 (by decide) (fun q => absurd (by decide) q) (fun _ => ?_)
  refine z_aload_n C dX6_errs_7 0 rfl ?_
  refine z_iload_n C dX6_errs_8 1 rfl ?_
  refine zm_put_fault C hin k129 dX6_errs_9 ?_
  refine z_aload_n C dX6_errs_12 0 rfl ?_
  refine z_aload_n C dX6_errs_13 0 rfl ?_
  refine zm_get_from C hin (x := v 16) k107 dX6_errs_14 rfl ?_
  refine zm_put_faultAt C hin k132 dX6_errs_17 ?_
  exact z_vret C hr hk () (rfl) trivial (List.Perm.of_eq rfl) dX6_errs_20 (Nat.le_refl _) (Nat.le_refl _)
theorem hdX6_errs : yX6_errs.cls = RX6 ∧ yX6_errs.cls ≠ "java/lang/invoke/MethodHandle" ∧ yX6_errs.cls ≠ "java/lang/invoke/VarHandle" ∧ (parseMethodDescriptor yX6_errs.desc).map (fun d => d.parameters.length) = some 1 := by decide +kernel
set_option maxRecDepth 100000 in
set_option maxHeartbeats 4000000 in
theorem mX6_errs_1 (l : Launch) (D : va_G) (κ : Nat → ClassId) (Ad : Nat → Nat) (eo : Int32) (ip : Nat → Int32) (v nw aw od sv ot : Nat → Nat) (c0 : Nat) (h1f : 0 < v 19) (h2f : v 19 ≤ 5) : mM l yX6_errs wsX6_errs { frames := 0, cells := 0, slots := 0, locals := 0 } D κ Ad [.int (nI c0)] eo ip v nw aw od sv ot none eo ip v nw aw od sv ot := by
  refine zM_of (cc := cX6_errs) (maxL := 2) (rt := none) [(0, .ref (Ad 0)), (1, .int (nI c0))] (by decide +kernel) rfl (Nat.le_of_ble_eq_true rfl) rfl ?_
  intro p e s m args below meth c A C hr hk hnm
  have C : zC p s m args c cX6_errs 2 wsX6_errs RX6 D (zTy κ) A := C
  have hin : ∀ w ∈ wsX60, w ∈ wsX6_errs := fun w h => List.mem_cons_of_mem _ (List.mem_append_right _ h)
  have k129 : Cond.fieldLink RX6 129 "PeatRailwayModel" "fault" "I" ∈ wsX6_errs := by decide +kernel
  have k107 : Cond.fieldLink RX6 107 "PeatRailwayModel" "from" "I" ∈ wsX6_errs := by decide +kernel
  have k132 : Cond.fieldLink RX6 132 "PeatRailwayModel" "faultAt" "I" ∈ wsX6_errs := by decide +kernel
  refine z_aload_n C dX6_errs_0 0 rfl ?_
  refine zm_get_fault C hin (x := v 19) k129 dX6_errs_1 rfl ?_
  refine zn_if_ne C 20 dX6_errs_4 (by decide) (by omega) (fun h1 => ?_) (fun h2 => ?_)
  · exact z_vret C hr hk () (rfl) trivial (List.Perm.of_eq rfl) dX6_errs_20 (Nat.le_refl _) (Nat.le_refl _)
  · exact absurd h1f (by omega)
set_option maxRecDepth 100000 in
set_option maxHeartbeats 4000000 in
theorem mX6_isKey (l : Launch) (D : va_G) (κ : Nat → ClassId) (Ad : Nat → Nat) (eo : Int32) (ip : Nat → Int32) (v nw aw od sv ot : Nat → Nat) (i : Nat) (n : Nat) (T : Tok) (hi : i < 8) (hT : TV ip n v T) (hn : n ≤ 600) : mM l yX6_isKey wsX6_isKey { frames := 0, cells := 0, slots := 0, locals := 0 } D κ Ad [.int (nI i)] eo ip v nw aw od sv ot (some (.int (nI (kyM i ip T).toNat))) eo ip v nw aw od sv ot := by
  refine zM_of (cc := cX6_isKey) (maxL := 4) (rt := (some .boolean)) [(0, .ref (Ad 0)), (1, .int (nI i))] (by decide +kernel) rfl (Nat.le_of_ble_eq_true rfl) rfl ?_
  intro p e s m args below meth c A C hr hk hnm
  have C : zC p s m args c cX6_isKey 4 wsX6_isKey RX6 D (zTy κ) A := C
  have hin : ∀ w ∈ wsX60, w ∈ wsX6_isKey := fun w h => List.mem_cons_of_mem _ (List.mem_append_right _ h)
  have k101 : Cond.fieldLink RX6 101 "PeatRailwayModel" "kind" "I" ∈ wsX6_isKey := by decide +kernel
  have k104 : Cond.fieldLink RX6 104 "PeatRailwayModel" "to" "I" ∈ wsX6_isKey := by decide +kernel
  have k107 : Cond.fieldLink RX6 107 "PeatRailwayModel" "from" "I" ∈ wsX6_isKey := by decide +kernel
  have k25 : Cond.fieldLink RX6 25 "PeatRailwayModel" "input" "[B" ∈ wsX6_isKey := by decide +kernel
  have k7 : Cond.fieldLink RX6 7 "PeatRailwayModel" "keys" "[I" ∈ wsX6_isKey := by decide +kernel
  obtain ⟨e14, e15, e16, e17, e18, hTn, hTf, hTk⟩ := id hT
  obtain ⟨T1, T2, T3⟩ := T
  dsimp only at hT e15 e16 e17 e18 hTn hTf hTk
  refine z_aload_n C dX6_isKey_0 0 rfl ?_
  refine zm_get_kind C hin (x := v 15) k101 dX6_isKey_1 rfl ?_
  refine z_iconst (v := nI 1) C dX6_isKey_4 (by decide) ?_
  refine zn_icmp_ne C 22 dX6_isKey_5 (by decide) (by omega) (by omega) (fun h1 => ?_) (fun h2 => ?_)
  · refine z_iconst (v := nI 0) C dX6_isKey_22 (by decide) ?_
    exact z_zret C hr hk (by decide) () (congrArg (fun x : Bool => some (Value.int (nI x.toNat))) (show kyM i ip (T1, T2, T3) = false by simp only [kyM]; exact if_neg (by omega))) trivial (List.Perm.of_eq rfl) dX6_isKey_23 (Nat.le_refl _) (Nat.le_refl _)
  · refine z_aload_n C dX6_isKey_8 0 rfl ?_
    refine zm_get_to C hin (x := v 17) k104 dX6_isKey_9 rfl ?_
    refine z_aload_n C dX6_isKey_12 0 rfl ?_
    refine zm_get_from C hin (x := v 16) k107 dX6_isKey_13 rfl ?_
    refine zn_isub C dX6_isKey_16 (by omega) ?_
    refine z_bipush (v := nI 7) C dX6_isKey_17 (by decide) ?_
    refine zn_icmp_le C 24 dX6_isKey_19 (by decide) (by omega) (by omega) (fun h3 => ?_) (fun h4 => ?_)
    · refine z_iconst (v := nI 0) C dX6_isKey_24 (by decide) ?_
      refine z_istore_n C [(2, .int (nI 0)), (0, .ref (Ad 0)), (1, .int (nI i))] dX6_isKey_25 (by decide) rfl ?_
      refine z_lv [1, 2, 0] rfl ?_
      refine z_loop (σ := Nat) (fun k => MW κ Ad eo ip v nw aw od sv ot) (fun k => [(0, .ref (Ad 0)), (1, .int (nI i)), (2, .int (nI k))]) (fun k => k ≤ 7 ∧ allL (kyB i ip T2 T3) k = true) (fun k => 7 - k) (0) (⟨Nat.zero_le _, rfl⟩) rfl rfl ?_
      rintro k hI26 ih26
      obtain ⟨hk1, hk2⟩ := hI26
      have hky9 := kyF_le (7 * i + k)
      refine z_iload_n C dX6_isKey_26 2 rfl ?_
      refine z_bipush (v := nI 7) C dX6_isKey_27 (by decide) ?_
      refine zn_icmp_ge C 84 dX6_isKey_29 (by decide) (by omega) (by omega) (fun h5 => ?_) (fun h6 => ?_)
      · refine z_iconst (v := nI 1) C dX6_isKey_84 (by decide) ?_
        exact z_zret C hr hk (by decide) () (congrArg (fun x : Bool => some (Value.int (nI x.toNat))) (show kyM i ip (T1, T2, T3) = true by simp only [kyM]; rw [if_pos ⟨by omega, by omega⟩, show (7 : Nat) = k by omega]; exact hk2)) trivial (List.Perm.of_eq rfl) dX6_isKey_85 (Nat.le_refl _) (Nat.le_refl _)
      · refine z_iload_n C dX6_isKey_32 2 rfl ?_
        refine z_aload_n C dX6_isKey_33 0 rfl ?_
        refine zm_get_to C hin (x := v 17) k104 dX6_isKey_34 rfl ?_
        refine z_aload_n C dX6_isKey_37 0 rfl ?_
        refine zm_get_from C hin (x := v 16) k107 dX6_isKey_38 rfl ?_
        refine zn_isub C dX6_isKey_41 (by omega) ?_
        refine zn_icmp_ge C 59 dX6_isKey_42 (by decide) (by omega) (by omega) (fun h7 => ?_) (fun h8 => ?_)
        · refine z_iconst (v := nI 0) C dX6_isKey_59 (by decide) ?_
          refine z_istore_n C [(3, .int (nI 0)), (0, .ref (Ad 0)), (1, .int (nI i)), (2, .int (nI k))] dX6_isKey_60 (by decide) rfl ?_
          refine z_iload_n C dX6_isKey_61 0 rfl ?_
          refine z_aload_n C dX6_isKey_62 1 rfl ?_
          refine zm_get_keys C hin k7 dX6_isKey_63 ?_
          refine z_bipush (v := nI 7) C dX6_isKey_66 (by decide) ?_
          refine z_iload_n C dX6_isKey_68 2 rfl ?_
          refine zn_imul C dX6_isKey_69 ?_
          refine z_iload_n C dX6_isKey_70 3 rfl ?_
          refine zn_iadd C dX6_isKey_71 ?_
          refine zm_ald_keys C (by omega) dX6_isKey_72 ?_
          refine zn_icmp_eq C 78 dX6_isKey_73 (by decide) (by omega) (by omega) (fun h9 => ?_) (fun h10 => ?_)
          · have hky : kyB i ip T2 T3 k = true := by simp only [kyB]; rw [if_neg (by omega), ← h9]; exact decide_eq_true rfl
            refine zn_iinc (n := 1) C [(2, .int (nI (k + 1))), (3, .int (nI 0)), (0, .ref (Ad 0)), (1, .int (nI i))] dX6_isKey_78 3 rfl (by decide) rfl ?_
            refine z_goto (tgt := 26) C dX6_isKey_81 (by decide) ?_
            refine z_lv [2, 3, 0] rfl ?_
            exact ih26 (k + 1) ⟨by omega, by simp only [allL]; rw [hk2, hky]; rfl⟩ (by omega)
          · have hky : kyB i ip T2 T3 k = false := by simp only [kyB]; rw [if_neg (by omega)]; exact decide_eq_false (fun z => h10 ((zq_eq (by omega) (by omega)).mp z))
            refine z_iconst (v := nI 0) C dX6_isKey_76 (by decide) ?_
            exact z_zret C hr hk (by decide) () (congrArg (fun x : Bool => some (Value.int (nI x.toNat))) (show kyM i ip (T1, T2, T3) = false by simp only [kyM]; rw [if_pos ⟨by omega, by omega⟩]; exact allL_f hky 7 (by omega))) trivial (List.Perm.of_eq rfl) dX6_isKey_77 (Nat.le_refl _) (Nat.le_refl _)
        · refine z_aload_n C dX6_isKey_45 0 rfl ?_
          refine zm_get_input C hin k25 dX6_isKey_46 ?_
          refine z_aload_n C dX6_isKey_49 0 rfl ?_
          refine zm_get_from C hin (x := v 16) k107 dX6_isKey_50 rfl ?_
          refine z_iload_n C dX6_isKey_53 2 rfl ?_
          refine zn_iadd C dX6_isKey_54 ?_
          refine zm_ald_input C (by omega) dX6_isKey_55 ?_
          refine z_goto (tgt := 60) C dX6_isKey_56 (by decide) ?_
          refine z_istore_n C [(3, .int (ip ((v 16) + k))), (0, .ref (Ad 0)), (1, .int (nI i)), (2, .int (nI k))] dX6_isKey_60 (by decide) rfl ?_
          refine z_iload_n C dX6_isKey_61 0 rfl ?_
          refine z_aload_n C dX6_isKey_62 1 rfl ?_
          refine zm_get_keys C hin k7 dX6_isKey_63 ?_
          refine z_bipush (v := nI 7) C dX6_isKey_66 (by decide) ?_
          refine z_iload_n C dX6_isKey_68 2 rfl ?_
          refine zn_imul C dX6_isKey_69 ?_
          refine z_iload_n C dX6_isKey_70 3 rfl ?_
          refine zn_iadd C dX6_isKey_71 ?_
          refine zm_ald_keys C (by omega) dX6_isKey_72 ?_
          refine z_icmp_eq C 78 dX6_isKey_73 (by decide) (fun h11 => ?_) (fun h12 => ?_)
          · have hky : kyB i ip T2 T3 k = true := by simp only [kyB]; rw [if_pos (by omega), ← e16]; exact decide_eq_true h11
            refine zn_iinc (n := 1) C [(2, .int (nI (k + 1))), (3, .int (ip ((v 16) + k))), (0, .ref (Ad 0)), (1, .int (nI i))] dX6_isKey_78 3 rfl (by decide) rfl ?_
            refine z_goto (tgt := 26) C dX6_isKey_81 (by decide) ?_
            refine z_lv [2, 3, 0] rfl ?_
            exact ih26 (k + 1) ⟨by omega, by simp only [allL]; rw [hk2, hky]; rfl⟩ (by omega)
          · have hky : kyB i ip T2 T3 k = false := by simp only [kyB]; rw [if_pos (by omega), ← e16]; exact decide_eq_false h12
            refine z_iconst (v := nI 0) C dX6_isKey_76 (by decide) ?_
            exact z_zret C hr hk (by decide) () (congrArg (fun x : Bool => some (Value.int (nI x.toNat))) (show kyM i ip (T1, T2, T3) = false by simp only [kyM]; rw [if_pos ⟨by omega, by omega⟩]; exact allL_f hky 7 (by omega))) trivial (List.Perm.of_eq rfl) dX6_isKey_77 (Nat.le_refl _) (Nat.le_refl _)
    · refine z_iconst (v := nI 0) C dX6_isKey_22 (by decide) ?_
      exact z_zret C hr hk (by decide) () (congrArg (fun x : Bool => some (Value.int (nI x.toNat))) (show kyM i ip (T1, T2, T3) = false by simp only [kyM]; exact if_neg (by omega))) trivial (List.Perm.of_eq rfl) dX6_isKey_23 (Nat.le_refl _) (Nat.le_refl _)
theorem hdX6_isKey : yX6_isKey.cls = RX6 ∧ yX6_isKey.cls ≠ "java/lang/invoke/MethodHandle" ∧ yX6_isKey.cls ≠ "java/lang/invoke/VarHandle" ∧ (parseMethodDescriptor yX6_isKey.desc).map (fun d => d.parameters.length) = some 1 := by decide +kernel
set_option maxRecDepth 100000 in
set_option maxHeartbeats 4000000 in
theorem mX6_goesOn_0 (l : Launch) (D : va_G) (κ : Nat → ClassId) (Ad : Nat → Nat) (eo : Int32) (ip : Nat → Int32) (v nw aw od sv ot : Nat → Nat) (n : Nat) (T : Tok) (hT : TV ip n v T) (hn : n ≤ 600) (h0 : v 19 = 0) : mV l yX6_goesOn wsX6_goesOn { frames := 3, cells := 0, slots := 0, locals := 63 } D κ Ad [] eo ip v nw aw od sv ot none (fun v9 => TV ip n v9 (nxT ip n T) ∧ v9 19 = v 19 ∧ v9 20 = v 20 ∧ Fz v v9) := by
  refine zM_of (cc := cX6_goesOn) (maxL := 1) (rt := none) [(0, .ref (Ad 0))] (by decide +kernel) rfl (Nat.le_of_ble_eq_true rfl) rfl ?_
  intro p e s m args below meth c A C hr hk hnm
  have C : zC p s m args c cX6_goesOn 1 wsX6_goesOn RX6 D (zTy κ) A := C
  have hin : ∀ w ∈ wsX60, w ∈ wsX6_goesOn := fun w h => List.mem_cons_of_mem _ (List.mem_append_right _ h)
  have k129 : Cond.fieldLink RX6 129 "PeatRailwayModel" "fault" "I" ∈ wsX6_goesOn := by decide +kernel
  refine z_aload_n C dX6_goesOn_0 0 rfl ?_
  refine zm_get_fault C hin (x := v 19) k129 dX6_goesOn_1 rfl ?_
  rw [h0]
  refine z_if_ne C 11 dX6_goesOn_4 (by decide) (fun q => absurd (by decide) q) (fun _ => ?_)
  refine z_aload_n C dX6_goesOn_7 0 rfl ?_
  refine zm_callV C (mX6_next l D κ Ad _ _ _ _ _ _ _ _ n T hT hn) gX6_goesOn_X6_next rfl rfl rfl hdX6_next ⟨Nat.le_of_ble_eq_true rfl, Nat.le_of_ble_eq_true rfl⟩ rfl (Nat.le_of_ble_eq_true rfl) dX6_goesOn_8 ⟨Nat.zero_le _, Nat.zero_le _⟩ (fun v1 hv1 => ?_)
  obtain ⟨hT1, hf1, ho1, hz1⟩ := hv1
  exact z_vret C hr hk (v1) rfl (⟨hT1, hf1.trans h0, ho1, hz1⟩) (List.Perm.of_eq rfl) dX6_goesOn_11 (Nat.le_refl _) (Nat.le_refl _)
theorem hdX6_goesOn : yX6_goesOn.cls = RX6 ∧ yX6_goesOn.cls ≠ "java/lang/invoke/MethodHandle" ∧ yX6_goesOn.cls ≠ "java/lang/invoke/VarHandle" ∧ (parseMethodDescriptor yX6_goesOn.desc).map (fun d => d.parameters.length) = some 0 := by decide +kernel
set_option maxRecDepth 100000 in
set_option maxHeartbeats 4000000 in
theorem mX6_goesOn_1 (l : Launch) (D : va_G) (κ : Nat → ClassId) (Ad : Nat → Nat) (eo : Int32) (ip : Nat → Int32) (v nw aw od sv ot : Nat → Nat)  (h1f : 0 < v 19) (h2f : v 19 ≤ 5) : mM l yX6_goesOn wsX6_goesOn { frames := 3, cells := 0, slots := 0, locals := 63 } D κ Ad [] eo ip v nw aw od sv ot none eo ip v nw aw od sv ot := by
  refine zM_of (cc := cX6_goesOn) (maxL := 1) (rt := none) [(0, .ref (Ad 0))] (by decide +kernel) rfl (Nat.le_of_ble_eq_true rfl) rfl ?_
  intro p e s m args below meth c A C hr hk hnm
  have C : zC p s m args c cX6_goesOn 1 wsX6_goesOn RX6 D (zTy κ) A := C
  have hin : ∀ w ∈ wsX60, w ∈ wsX6_goesOn := fun w h => List.mem_cons_of_mem _ (List.mem_append_right _ h)
  have k129 : Cond.fieldLink RX6 129 "PeatRailwayModel" "fault" "I" ∈ wsX6_goesOn := by decide +kernel
  refine z_aload_n C dX6_goesOn_0 0 rfl ?_
  refine zm_get_fault C hin (x := v 19) k129 dX6_goesOn_1 rfl ?_
  refine zn_if_ne C 11 dX6_goesOn_4 (by decide) (by omega) (fun h1 => ?_) (fun h2 => ?_)
  · exact z_vret C hr hk () (rfl) trivial (List.Perm.of_eq rfl) dX6_goesOn_11 (Nat.le_refl _) (Nat.le_refl _)
  · exact absurd h1f (by omega)
set_option maxRecDepth 100000 in
set_option maxHeartbeats 4000000 in
theorem mX6_here_0 (l : Launch) (D : va_G) (κ : Nat → ClassId) (Ad : Nat → Nat) (eo : Int32) (ip : Nat → Int32) (v nw aw od sv ot : Nat → Nat) (n : Nat) (T : Tok) (lo : Nat) (hi : Int32) (hX : Nat) (hT : TV ip n v T) (hn : n ≤ 600) (h0 : v 19 = 0) (hh : ∀ x, x ≤ 999 → inI (nI x) (nI lo) hi = (decide (lo ≤ x) && decide (x < hX))) : mVx l yX6_here wsX6_here { frames := 1, cells := 0, slots := 0, locals := 22 } D κ Ad [.int (nI lo), .int (hi)] eo ip v nw aw od sv ot (fun v9 x => (∃ c0, pNum ip lo hX T = .inl (c0, T.2.1) ∧ v9 = upN (upN v 19 c0) 20 (v 16) ∧ 0 < c0 ∧ c0 ≤ 5 ∧ x = lo) ∨ (pNum ip lo hX T = .inr x ∧ v9 = v)) := by
  refine zM_of (cc := cX6_here) (maxL := 3) (rt := (some .int)) [(0, .ref (Ad 0)), (1, .int (nI lo)), (2, .int (hi))] (by decide +kernel) rfl (Nat.le_of_ble_eq_true rfl) rfl ?_
  intro p e s m args below meth c A C hr hk hnm
  have C : zC p s m args c cX6_here 3 wsX6_here RX6 D (zTy κ) A := C
  have hin : ∀ w ∈ wsX60, w ∈ wsX6_here := fun w h => List.mem_cons_of_mem _ (List.mem_append_right _ h)
  have k129 : Cond.fieldLink RX6 129 "PeatRailwayModel" "fault" "I" ∈ wsX6_here := by decide +kernel
  have k101 : Cond.fieldLink RX6 101 "PeatRailwayModel" "kind" "I" ∈ wsX6_here := by decide +kernel
  have k126 : Cond.fieldLink RX6 126 "PeatRailwayModel" "value" "I" ∈ wsX6_here := by decide +kernel
  obtain ⟨e14, e15, e16, e17, e18, hTn, hTf, hTk⟩ := id hT
  refine z_aload_n C dX6_here_0 0 rfl ?_
  refine zm_get_fault C hin (x := v 19) k129 dX6_here_1 rfl ?_
  rw [h0]
  refine z_if_ne C 20 dX6_here_4 (by decide) (fun q => absurd (by decide) q) (fun _ => ?_)
  refine z_aload_n C dX6_here_7 0 rfl ?_
  refine zm_get_kind C hin (x := v 15) k101 dX6_here_8 rfl ?_
  refine z_iconst (v := nI 2) C dX6_here_11 (by decide) ?_
  refine zn_icmp_eq C 20 dX6_here_12 (by decide) (by omega) (by omega) (fun h1 => ?_) (fun h2 => ?_)
  · refine z_aload_n C dX6_here_20 0 rfl ?_
    refine zm_get_fault C hin (x := v 19) k129 dX6_here_21 rfl ?_
    rw [h0]
    refine z_if_ne C 44 dX6_here_24 (by decide) (fun q => absurd (by decide) q) (fun _ => ?_)
    refine z_aload_n C dX6_here_27 0 rfl ?_
    refine zm_get_value C hin (x := v 18) k126 dX6_here_28 rfl ?_
    refine z_iload_n C dX6_here_31 1 rfl ?_
    refine z_iload_n C dX6_here_32 2 rfl ?_
    have h18 := (e18 (by omega)).2
    refine zs_call C (mX6_in l D κ (nI (v 18)) (nI lo) (hi)) gX6_here_X6_in rfl rfl rfl hdX6_in ⟨Nat.le_of_ble_eq_true rfl, Nat.le_of_ble_eq_true rfl⟩ rfl (Nat.le_of_ble_eq_true rfl) dX6_here_33 ⟨Nat.zero_le _, Nat.zero_le _⟩ ?_
    rw [hh (v 18) (by omega)]
    refine zb_if_ne C 44 dX6_here_36 (by decide) (fun h3 => ?_) (fun h4 => ?_)
    · refine z_aload_n C dX6_here_44 0 rfl ?_
      refine zm_get_fault C hin (x := v 19) k129 dX6_here_45 rfl ?_
      rw [h0]
      refine z_if_ne C 58 dX6_here_48 (by decide) (fun q => absurd (by decide) q) (fun _ => ?_)
      refine z_aload_n C dX6_here_51 0 rfl ?_
      refine zm_get_value C hin (x := v 18) k126 dX6_here_52 rfl ?_
      refine z_goto (tgt := 59) C dX6_here_55 (by decide) ?_
      exact z_iret C hr hk (v, v 18) rfl (Or.inr ⟨by simp only [pNum]; rw [if_pos (by omega), ← (e18 (by omega)).1, if_pos (by have h9 := h3; simp only [Bool.and_eq_true, decide_eq_true_eq] at h9; exact h9)], rfl⟩) (List.Perm.of_eq rfl) dX6_here_59 (Nat.le_refl _) (Nat.le_refl _)
    · refine z_aload_n C dX6_here_39 0 rfl ?_
      refine z_iconst (v := nI 2) C dX6_here_40 (by decide) ?_
      refine zm_call C (mX6_errs_0 l D κ Ad _ _ _ _ _ _ _ _ 2 (show v 19 = 0 by omega)) gX6_here_X6_errs rfl rfl rfl hdX6_errs ⟨Nat.le_of_ble_eq_true rfl, Nat.le_of_ble_eq_true rfl⟩ rfl (Nat.le_of_ble_eq_true rfl) dX6_here_41 ⟨Nat.zero_le _, Nat.zero_le _⟩ ?_
      refine z_aload_n C dX6_here_44 0 rfl ?_
      refine zm_get_fault C hin (x := 2) k129 dX6_here_45 rfl ?_
      refine z_if_ne C 58 dX6_here_48 (by decide) (fun _ => ?_) (fun q => absurd q (by decide))
      refine z_iload_n C dX6_here_58 1 rfl ?_
      exact z_iret C hr hk (upN (upN v 19 2) 20 (v 16), lo) rfl (Or.inl ⟨2, by simp only [pNum]; rw [if_pos (by omega), ← (e18 (by omega)).1, if_neg (by have h9 := h4; simp only [Bool.and_eq_false_iff, decide_eq_false_iff_not] at h9; omega)], rfl, by decide, by decide, rfl⟩) (List.Perm.of_eq rfl) dX6_here_59 (Nat.le_refl _) (Nat.le_refl _)
  · refine z_aload_n C dX6_here_15 0 rfl ?_
    refine z_iconst (v := nI 1) C dX6_here_16 (by decide) ?_
    refine zm_call C (mX6_errs_0 l D κ Ad _ _ _ _ _ _ _ _ 1 (show v 19 = 0 by omega)) gX6_here_X6_errs rfl rfl rfl hdX6_errs ⟨Nat.le_of_ble_eq_true rfl, Nat.le_of_ble_eq_true rfl⟩ rfl (Nat.le_of_ble_eq_true rfl) dX6_here_17 ⟨Nat.zero_le _, Nat.zero_le _⟩ ?_
    refine z_aload_n C dX6_here_20 0 rfl ?_
    refine zm_get_fault C hin (x := 1) k129 dX6_here_21 rfl ?_
    refine z_if_ne C 44 dX6_here_24 (by decide) (fun _ => ?_) (fun q => absurd q (by decide))
    refine z_aload_n C dX6_here_44 0 rfl ?_
    refine zm_get_fault C hin (x := 1) k129 dX6_here_45 rfl ?_
    refine z_if_ne C 58 dX6_here_48 (by decide) (fun _ => ?_) (fun q => absurd q (by decide))
    refine z_iload_n C dX6_here_58 1 rfl ?_
    exact z_iret C hr hk (upN (upN v 19 1) 20 (v 16), lo) rfl (Or.inl ⟨1, by simp only [pNum]; rw [if_neg (by omega)], rfl, by decide, by decide, rfl⟩) (List.Perm.of_eq rfl) dX6_here_59 (Nat.le_refl _) (Nat.le_refl _)
theorem hdX6_here : yX6_here.cls = RX6 ∧ yX6_here.cls ≠ "java/lang/invoke/MethodHandle" ∧ yX6_here.cls ≠ "java/lang/invoke/VarHandle" ∧ (parseMethodDescriptor yX6_here.desc).map (fun d => d.parameters.length) = some 2 := by decide +kernel
set_option maxRecDepth 100000 in
set_option maxHeartbeats 4000000 in
theorem mX6_here_1 (l : Launch) (D : va_G) (κ : Nat → ClassId) (Ad : Nat → Nat) (eo : Int32) (ip : Nat → Int32) (v nw aw od sv ot : Nat → Nat) (lo : Nat) (hi : Int32) (h1f : 0 < v 19) (h2f : v 19 ≤ 5) : mM l yX6_here wsX6_here { frames := 1, cells := 0, slots := 0, locals := 22 } D κ Ad [.int (nI lo), .int (hi)] eo ip v nw aw od sv ot (some (.int (nI lo))) eo ip v nw aw od sv ot := by
  refine zM_of (cc := cX6_here) (maxL := 3) (rt := (some .int)) [(0, .ref (Ad 0)), (1, .int (nI lo)), (2, .int (hi))] (by decide +kernel) rfl (Nat.le_of_ble_eq_true rfl) rfl ?_
  intro p e s m args below meth c A C hr hk hnm
  have C : zC p s m args c cX6_here 3 wsX6_here RX6 D (zTy κ) A := C
  have hin : ∀ w ∈ wsX60, w ∈ wsX6_here := fun w h => List.mem_cons_of_mem _ (List.mem_append_right _ h)
  have k129 : Cond.fieldLink RX6 129 "PeatRailwayModel" "fault" "I" ∈ wsX6_here := by decide +kernel
  have k101 : Cond.fieldLink RX6 101 "PeatRailwayModel" "kind" "I" ∈ wsX6_here := by decide +kernel
  have k126 : Cond.fieldLink RX6 126 "PeatRailwayModel" "value" "I" ∈ wsX6_here := by decide +kernel
  refine z_aload_n C dX6_here_0 0 rfl ?_
  refine zm_get_fault C hin (x := v 19) k129 dX6_here_1 rfl ?_
  refine zn_if_ne C 20 dX6_here_4 (by decide) (by omega) (fun h1 => ?_) (fun h2 => ?_)
  · refine z_aload_n C dX6_here_20 0 rfl ?_
    refine zm_get_fault C hin (x := v 19) k129 dX6_here_21 rfl ?_
    refine zn_if_ne C 44 dX6_here_24 (by decide) (by omega) (fun h3 => ?_) (fun h4 => ?_)
    · refine z_aload_n C dX6_here_44 0 rfl ?_
      refine zm_get_fault C hin (x := v 19) k129 dX6_here_45 rfl ?_
      refine zn_if_ne C 58 dX6_here_48 (by decide) (by omega) (fun h5 => ?_) (fun h6 => ?_)
      · refine z_iload_n C dX6_here_58 1 rfl ?_
        exact z_iret C hr hk () (rfl) trivial (List.Perm.of_eq rfl) dX6_here_59 (Nat.le_refl _) (Nat.le_refl _)
      · exact absurd h1f (by omega)
    · exact absurd h1f (by omega)
  · exact absurd h1f (by omega)
set_option maxRecDepth 100000 in
set_option maxHeartbeats 4000000 in
theorem mX6_takesNumber_0 (l : Launch) (D : va_G) (κ : Nat → ClassId) (Ad : Nat → Nat) (eo : Int32) (ip : Nat → Int32) (v nw aw od sv ot : Nat → Nat) (n : Nat) (T : Tok) (lo : Nat) (hi : Int32) (hX : Nat) (hT : TV ip n v T) (hn : n ≤ 600) (h0 : v 19 = 0) (hh : ∀ x, x ≤ 999 → inI (nI x) (nI lo) hi = (decide (lo ≤ x) && decide (x < hX))) : mVx l yX6_takesNumber wsX6_takesNumber { frames := 4, cells := 0, slots := 0, locals := 83 } D κ Ad [.int (nI lo), .int (hi)] eo ip v nw aw od sv ot (fun v9 x => (∃ c0 o0, pNum ip lo hX T = .inl (c0, o0) ∧ v9 19 = c0 ∧ v9 20 = o0 ∧ 0 < c0 ∧ c0 ≤ 5 ∧ Fz v v9 ∧ x = lo) ∨ (pNum ip lo hX T = .inr x ∧ v9 19 = 0 ∧ TV ip n v9 (nxT ip n T) ∧ Fz v v9)) := by
  refine zM_of (cc := cX6_takesNumber) (maxL := 4) (rt := (some .int)) [(0, .ref (Ad 0)), (1, .int (nI lo)), (2, .int (hi))] (by decide +kernel) rfl (Nat.le_of_ble_eq_true rfl) rfl ?_
  intro p e s m args below meth c A C hr hk hnm
  have C : zC p s m args c cX6_takesNumber 4 wsX6_takesNumber RX6 D (zTy κ) A := C
  obtain ⟨e14, e15, e16, e17, e18, hTn, hTf, hTk⟩ := id hT
  refine z_aload_n C dX6_takesNumber_0 0 rfl ?_
  refine z_iload_n C dX6_takesNumber_1 1 rfl ?_
  refine z_iload_n C dX6_takesNumber_2 2 rfl ?_
  refine zm_callVx C (mX6_here_0 l D κ Ad _ _ _ _ _ _ _ _ n T lo (hi) hX hT hn (show v 19 = 0 by omega) hh) gX6_takesNumber_X6_here rfl rfl rfl hdX6_here ⟨Nat.le_of_ble_eq_true rfl, Nat.le_of_ble_eq_true rfl⟩ rfl (Nat.le_of_ble_eq_true rfl) dX6_takesNumber_3 ⟨Nat.zero_le _, Nat.zero_le _⟩ (fun v1 x1 hv1 => ?_)
  rcases hv1 with ⟨c0, hp, he, hc1, hc2, hxl⟩ | ⟨hp, he⟩
  · have hx19 : v1 19 = c0 := by rw [he]; rfl
    have hx20 : v1 20 = T.2.1 := by rw [he]; exact e16
    have hfz : Fz v v1 := by rw [he]; exact ((Fz.rf v).up (by decide)).up (by decide)
    refine z_istore_n C [(3, .int (nI x1)), (0, .ref (Ad 0)), (1, .int (nI lo)), (2, .int (hi))] dX6_takesNumber_6 (by decide) rfl ?_
    refine z_aload_n C dX6_takesNumber_7 1 rfl ?_
    refine zm_call C (mX6_goesOn_1 l D κ Ad _ _ _ _ _ _ _ _ (show 0 < v1 19 by omega) (show v1 19 ≤ 5 by omega)) gX6_takesNumber_X6_goesOn rfl rfl rfl hdX6_goesOn ⟨Nat.le_of_ble_eq_true rfl, Nat.le_of_ble_eq_true rfl⟩ rfl (Nat.le_of_ble_eq_true rfl) dX6_takesNumber_8 ⟨Nat.zero_le _, Nat.zero_le _⟩ ?_
    refine z_iload_n C dX6_takesNumber_11 0 rfl ?_
    exact z_iret C hr hk (v1, x1) rfl (Or.inl ⟨c0, T.2.1, hp, hx19, hx20, hc1, hc2, hfz, hxl⟩) (List.Perm.of_eq rfl) dX6_takesNumber_12 (Nat.le_refl _) (Nat.le_refl _)
  · obtain rfl : v = v1 := he.symm
    refine z_istore_n C [(3, .int (nI x1)), (0, .ref (Ad 0)), (1, .int (nI lo)), (2, .int (hi))] dX6_takesNumber_6 (by decide) rfl ?_
    refine z_aload_n C dX6_takesNumber_7 1 rfl ?_
    refine zm_callV C (mX6_goesOn_0 l D κ Ad _ _ _ _ _ _ _ _ n T hT hn (show v 19 = 0 by omega)) gX6_takesNumber_X6_goesOn rfl rfl rfl hdX6_goesOn ⟨Nat.le_of_ble_eq_true rfl, Nat.le_of_ble_eq_true rfl⟩ rfl (Nat.le_of_ble_eq_true rfl) dX6_takesNumber_8 ⟨Nat.zero_le _, Nat.zero_le _⟩ (fun v2 hv2 => ?_)
    obtain ⟨hT2, hf2, ho2, hz2⟩ := hv2
    refine z_iload_n C dX6_takesNumber_11 0 rfl ?_
    exact z_iret C hr hk (v2, x1) rfl (Or.inr ⟨hp, hf2.trans h0, hT2, hz2⟩) (List.Perm.of_eq rfl) dX6_takesNumber_12 (Nat.le_refl _) (Nat.le_refl _)
theorem hdX6_takesNumber : yX6_takesNumber.cls = RX6 ∧ yX6_takesNumber.cls ≠ "java/lang/invoke/MethodHandle" ∧ yX6_takesNumber.cls ≠ "java/lang/invoke/VarHandle" ∧ (parseMethodDescriptor yX6_takesNumber.desc).map (fun d => d.parameters.length) = some 2 := by decide +kernel
set_option maxRecDepth 100000 in
set_option maxHeartbeats 4000000 in
theorem mX6_takesNumber_1 (l : Launch) (D : va_G) (κ : Nat → ClassId) (Ad : Nat → Nat) (eo : Int32) (ip : Nat → Int32) (v nw aw od sv ot : Nat → Nat) (lo : Nat) (hi : Int32) (h1f : 0 < v 19) (h2f : v 19 ≤ 5) : mM l yX6_takesNumber wsX6_takesNumber { frames := 4, cells := 0, slots := 0, locals := 83 } D κ Ad [.int (nI lo), .int (hi)] eo ip v nw aw od sv ot (some (.int (nI lo))) eo ip v nw aw od sv ot := by
  refine zM_of (cc := cX6_takesNumber) (maxL := 4) (rt := (some .int)) [(0, .ref (Ad 0)), (1, .int (nI lo)), (2, .int (hi))] (by decide +kernel) rfl (Nat.le_of_ble_eq_true rfl) rfl ?_
  intro p e s m args below meth c A C hr hk hnm
  have C : zC p s m args c cX6_takesNumber 4 wsX6_takesNumber RX6 D (zTy κ) A := C
  refine z_aload_n C dX6_takesNumber_0 0 rfl ?_
  refine z_iload_n C dX6_takesNumber_1 1 rfl ?_
  refine z_iload_n C dX6_takesNumber_2 2 rfl ?_
  refine zm_call C (mX6_here_1 l D κ Ad _ _ _ _ _ _ _ _ lo (hi) (show 0 < v 19 by omega) (show v 19 ≤ 5 by omega)) gX6_takesNumber_X6_here rfl rfl rfl hdX6_here ⟨Nat.le_of_ble_eq_true rfl, Nat.le_of_ble_eq_true rfl⟩ rfl (Nat.le_of_ble_eq_true rfl) dX6_takesNumber_3 ⟨Nat.zero_le _, Nat.zero_le _⟩ ?_
  refine z_istore_n C [(3, .int (nI lo)), (0, .ref (Ad 0)), (1, .int (nI lo)), (2, .int (hi))] dX6_takesNumber_6 (by decide) rfl ?_
  refine z_aload_n C dX6_takesNumber_7 1 rfl ?_
  refine zm_call C (mX6_goesOn_1 l D κ Ad _ _ _ _ _ _ _ _ (show 0 < v 19 by omega) (show v 19 ≤ 5 by omega)) gX6_takesNumber_X6_goesOn rfl rfl rfl hdX6_goesOn ⟨Nat.le_of_ble_eq_true rfl, Nat.le_of_ble_eq_true rfl⟩ rfl (Nat.le_of_ble_eq_true rfl) dX6_takesNumber_8 ⟨Nat.zero_le _, Nat.zero_le _⟩ ?_
  refine z_iload_n C dX6_takesNumber_11 0 rfl ?_
  exact z_iret C hr hk () (rfl) trivial (List.Perm.of_eq rfl) dX6_takesNumber_12 (Nat.le_refl _) (Nat.le_refl _)
set_option maxRecDepth 100000 in
set_option maxHeartbeats 4000000 in
theorem mX6_blockHere (l : Launch) (D : va_G) (κ : Nat → ClassId) (Ad : Nat → Nat) (eo : Int32) (ip : Nat → Int32) (v nw aw od sv ot : Nat → Nat) (M : Nat) (n : Nat) (T : Tok) (hB : Bd M nw) (hT : TV ip n v T) (hn : n ≤ 600) (h0 : v 19 = 0) : mVx l yX6_blockHere wsX6_blockHere { frames := 2, cells := 0, slots := 0, locals := 44 } D κ Ad [] eo ip v nw aw od sv ot (fun v9 x => (∃ c0, pNum ip 0 (nw 1) T = .inl (c0, T.2.1) ∧ v9 = upN (upN v 19 c0) 20 (v 16) ∧ 0 < c0 ∧ c0 ≤ 5 ∧ x = 0) ∨ (pNum ip 0 (nw 1) T = .inr x ∧ v9 = v)) := by
  refine zM_of (cc := cX6_blockHere) (maxL := 1) (rt := (some .int)) [(0, .ref (Ad 0))] (by decide +kernel) rfl (Nat.le_of_ble_eq_true rfl) rfl ?_
  intro p e s m args below meth c A C hr hk hnm
  have C : zC p s m args c cX6_blockHere 1 wsX6_blockHere RX6 D (zTy κ) A := C
  have hin : ∀ w ∈ wsX60, w ∈ wsX6_blockHere := fun w h => List.mem_cons_of_mem _ (List.mem_append_right _ h)
  have k13 : Cond.fieldLink RX6 13 "PeatRailwayModel" "now" "[I" ∈ wsX6_blockHere := by decide +kernel
  obtain ⟨hM1, hM2, ht0, hnb, hnt, hj, hp⟩ := id hB
  refine z_aload_n C dX6_blockHere_0 0 rfl ?_
  refine z_iconst (v := nI 0) C dX6_blockHere_1 (by decide) ?_
  refine z_aload_n C dX6_blockHere_2 0 rfl ?_
  refine zm_get_now C hin k13 dX6_blockHere_3 ?_
  refine z_iconst (v := nI 1) C dX6_blockHere_6 (by decide) ?_
  refine zm_ald_now C (by omega) dX6_blockHere_7 ?_
  refine z_iconst (v := nI 1) C dX6_blockHere_8 (by decide) ?_
  refine z_isub C dX6_blockHere_9 ?_
  refine zm_callVx C (mX6_here_0 l D κ Ad _ _ _ _ _ _ _ _ n T 0 ((nI (nw 1) - nI 1)) (nw 1) hT hn (show v 19 = 0 by omega) (hh_blk (by omega))) gX6_blockHere_X6_here rfl rfl rfl hdX6_here ⟨Nat.le_of_ble_eq_true rfl, Nat.le_of_ble_eq_true rfl⟩ rfl (Nat.le_of_ble_eq_true rfl) dX6_blockHere_10 ⟨Nat.zero_le _, Nat.zero_le _⟩ (fun v1 x1 hv1 => ?_)
  exact z_iret C hr hk (v1, x1) rfl (hv1) (List.Perm.of_eq rfl) dX6_blockHere_13 (Nat.le_refl _) (Nat.le_refl _)
theorem hdX6_blockHere : yX6_blockHere.cls = RX6 ∧ yX6_blockHere.cls ≠ "java/lang/invoke/MethodHandle" ∧ yX6_blockHere.cls ≠ "java/lang/invoke/VarHandle" ∧ (parseMethodDescriptor yX6_blockHere.desc).map (fun d => d.parameters.length) = some 0 := by decide +kernel
end M12
