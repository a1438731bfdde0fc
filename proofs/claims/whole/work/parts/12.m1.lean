section M1
set_option maxRecDepth 100000 in
set_option maxHeartbeats 4000000 in
theorem mX6_thrown (l : Launch) (D : va_G) (κ : Nat → ClassId) (Ad : Nat → Nat) (eo : Int32) (ip : Nat → Int32) (v nw aw od sv ot : Nat → Nat)   : mM l yX6_thrown wsX6_thrown { frames := 0, cells := 0, slots := 0, locals := 0 } D κ Ad [] eo ip v nw aw od sv ot (some (.int (nI (v 1)))) eo ip v nw aw od sv ot := by
  refine zM_of (cc := cX6_thrown) (maxL := 1) (rt := (some .int)) [(0, .ref (Ad 0))] (by decide +kernel) rfl (Nat.le_of_ble_eq_true rfl) rfl ?_
  intro p e s m args below meth c A C hr hk hnm
  have C : zC p s m args c cX6_thrown 1 wsX6_thrown RX6 D (zTy κ) A := C
  have hin : ∀ w ∈ wsX60, w ∈ wsX6_thrown := fun w h => List.mem_cons_of_mem _ (List.mem_append_right _ h)
  have k51 : Cond.fieldLink RX6 51 "PeatRailwayModel" "thrown" "I" ∈ wsX6_thrown := by decide +kernel
  refine z_aload_n C dX6_thrown_0 0 rfl ?_
  refine zm_get_thrown C hin (x := v 1) k51 dX6_thrown_1 rfl ?_
  exact z_iret C hr hk () (rfl) trivial (List.Perm.of_eq rfl) dX6_thrown_4 (Nat.le_refl _) (Nat.le_refl _)
theorem hdX6_thrown : yX6_thrown.cls = RX6 ∧ yX6_thrown.cls ≠ "java/lang/invoke/MethodHandle" ∧ yX6_thrown.cls ≠ "java/lang/invoke/VarHandle" ∧ (parseMethodDescriptor yX6_thrown.desc).map (fun d => d.parameters.length) = some 0 := by decide +kernel
set_option maxRecDepth 100000 in
set_option maxHeartbeats 4000000 in
theorem mX6_refuse (l : Launch) (D : va_G) (κ : Nat → ClassId) (Ad : Nat → Nat) (eo : Int32) (ip : Nat → Int32) (v nw aw od sv ot : Nat → Nat) (x : Nat)  : mM l yX6_refuse wsX6_refuse { frames := 0, cells := 0, slots := 0, locals := 0 } D κ Ad [.int (nI x)] eo ip v nw aw od sv ot (some (.int (nI 0))) eo ip (upN v 1 x) nw aw od sv ot := by
  refine zM_of (cc := cX6_refuse) (maxL := 2) (rt := (some .int)) [(0, .ref (Ad 0)), (1, .int (nI x))] (by decide +kernel) rfl (Nat.le_of_ble_eq_true rfl) rfl ?_
  intro p e s m args below meth c A C hr hk hnm
  have C : zC p s m args c cX6_refuse 2 wsX6_refuse RX6 D (zTy κ) A := C
  have hin : ∀ w ∈ wsX60, w ∈ wsX6_refuse := fun w h => List.mem_cons_of_mem _ (List.mem_append_right _ h)
  have k51 : Cond.fieldLink RX6 51 "PeatRailwayModel" "thrown" "I" ∈ wsX6_refuse := by decide +kernel
  refine z_aload_n C dX6_refuse_0 0 rfl ?_
  refine z_iload_n C dX6_refuse_1 1 rfl ?_
  refine zm_put_thrown C hin k51 dX6_refuse_2 ?_
  refine z_iconst (v := nI 0) C dX6_refuse_5 (by decide) ?_
  exact z_iret C hr hk () (rfl) trivial (List.Perm.of_eq rfl) dX6_refuse_6 (Nat.le_refl _) (Nat.le_refl _)
theorem hdX6_refuse : yX6_refuse.cls = RX6 ∧ yX6_refuse.cls ≠ "java/lang/invoke/MethodHandle" ∧ yX6_refuse.cls ≠ "java/lang/invoke/VarHandle" ∧ (parseMethodDescriptor yX6_refuse.desc).map (fun d => d.parameters.length) = some 1 := by decide +kernel
set_option maxRecDepth 100000 in
set_option maxHeartbeats 4000000 in
theorem mX6_told (l : Launch) (D : va_G) (κ : Nat → ClassId) (Ad : Nat → Nat) (eo : Int32) (ip : Nat → Int32) (v nw aw od sv ot : Nat → Nat) (x : Int32)  : mM l yX6_told wsX6_told { frames := 0, cells := 0, slots := 0, locals := 0 } D κ Ad [.int (x)] eo ip v nw aw od sv ot (some (.int (x))) eo ip (upN v 1 0) nw aw od sv ot := by
  refine zM_of (cc := cX6_told) (maxL := 2) (rt := (some .int)) [(0, .ref (Ad 0)), (1, .int (x))] (by decide +kernel) rfl (Nat.le_of_ble_eq_true rfl) rfl ?_
  intro p e s m args below meth c A C hr hk hnm
  have C : zC p s m args c cX6_told 2 wsX6_told RX6 D (zTy κ) A := C
  have hin : ∀ w ∈ wsX60, w ∈ wsX6_told := fun w h => List.mem_cons_of_mem _ (List.mem_append_right _ h)
  have k51 : Cond.fieldLink RX6 51 "PeatRailwayModel" "thrown" "I" ∈ wsX6_told := by decide +kernel
  refine z_aload_n C dX6_told_0 0 rfl ?_
  refine z_iconst (v := nI 0) C dX6_told_1 (by decide) ?_
  refine zm_put_thrown C hin k51 dX6_told_2 ?_
  refine z_iload_n C dX6_told_5 1 rfl ?_
  exact z_iret C hr hk () (rfl) trivial (List.Perm.of_eq rfl) dX6_told_6 (Nat.le_refl _) (Nat.le_refl _)
theorem hdX6_told : yX6_told.cls = RX6 ∧ yX6_told.cls ≠ "java/lang/invoke/MethodHandle" ∧ yX6_told.cls ≠ "java/lang/invoke/VarHandle" ∧ (parseMethodDescriptor yX6_told.desc).map (fun d => d.parameters.length) = some 1 := by decide +kernel
set_option maxRecDepth 100000 in
set_option maxHeartbeats 4000000 in
theorem mX6_says (l : Launch) (D : va_G) (κ : Nat → ClassId) (Ad : Nat → Nat) (eo : Int32) (ip : Nat → Int32) (v nw aw od sv ot : Nat → Nat) (x : Bool)  : mM l yX6_says wsX6_says { frames := 0, cells := 0, slots := 0, locals := 0 } D κ Ad [.int (nI (x).toNat)] eo ip v nw aw od sv ot (some (.int (nI (x).toNat))) eo ip (upN v 1 0) nw aw od sv ot := by
  refine zM_of (cc := cX6_says) (maxL := 2) (rt := (some .boolean)) [(0, .ref (Ad 0)), (1, .int (nI (x).toNat))] (by decide +kernel) rfl (Nat.le_of_ble_eq_true rfl) rfl ?_
  intro p e s m args below meth c A C hr hk hnm
  have C : zC p s m args c cX6_says 2 wsX6_says RX6 D (zTy κ) A := C
  have hin : ∀ w ∈ wsX60, w ∈ wsX6_says := fun w h => List.mem_cons_of_mem _ (List.mem_append_right _ h)
  have k51 : Cond.fieldLink RX6 51 "PeatRailwayModel" "thrown" "I" ∈ wsX6_says := by decide +kernel
  refine z_aload_n C dX6_says_0 0 rfl ?_
  refine z_iconst (v := nI 0) C dX6_says_1 (by decide) ?_
  refine zm_put_thrown C hin k51 dX6_says_2 ?_
  refine z_iload_n C dX6_says_5 1 rfl ?_
  exact z_zret C hr hk (zb_nar _) () (rfl) trivial (List.Perm.of_eq rfl) dX6_says_6 (Nat.le_refl _) (Nat.le_refl _)
theorem hdX6_says : yX6_says.cls = RX6 ∧ yX6_says.cls ≠ "java/lang/invoke/MethodHandle" ∧ yX6_says.cls ≠ "java/lang/invoke/VarHandle" ∧ (parseMethodDescriptor yX6_says.desc).map (fun d => d.parameters.length) = some 1 := by decide +kernel
set_option maxRecDepth 100000 in
set_option maxHeartbeats 4000000 in
theorem mX6_refuses (l : Launch) (D : va_G) (κ : Nat → ClassId) (Ad : Nat → Nat) (eo : Int32) (ip : Nat → Int32) (v nw aw od sv ot : Nat → Nat)   : mM l yX6_refuses wsX6_refuses { frames := 0, cells := 0, slots := 0, locals := 0 } D κ Ad [] eo ip v nw aw od sv ot (some (.int (nI (false).toNat))) eo ip (upN v 1 1) nw aw od sv ot := by
  refine zM_of (cc := cX6_refuses) (maxL := 1) (rt := (some .boolean)) [(0, .ref (Ad 0))] (by decide +kernel) rfl (Nat.le_of_ble_eq_true rfl) rfl ?_
  intro p e s m args below meth c A C hr hk hnm
  have C : zC p s m args c cX6_refuses 1 wsX6_refuses RX6 D (zTy κ) A := C
  have hin : ∀ w ∈ wsX60, w ∈ wsX6_refuses := fun w h => List.mem_cons_of_mem _ (List.mem_append_right _ h)
  have k51 : Cond.fieldLink RX6 51 "PeatRailwayModel" "thrown" "I" ∈ wsX6_refuses := by decide +kernel
  refine z_aload_n C dX6_refuses_0 0 rfl ?_
  refine z_iconst (v := nI 1) C dX6_refuses_1 (by decide) ?_
  refine zm_put_thrown C hin k51 dX6_refuses_2 ?_
  refine z_iconst (v := nI 0) C dX6_refuses_5 (by decide) ?_
  exact z_zret C hr hk (by decide) () (rfl) trivial (List.Perm.of_eq rfl) dX6_refuses_6 (Nat.le_refl _) (Nat.le_refl _)
theorem hdX6_refuses : yX6_refuses.cls = RX6 ∧ yX6_refuses.cls ≠ "java/lang/invoke/MethodHandle" ∧ yX6_refuses.cls ≠ "java/lang/invoke/VarHandle" ∧ (parseMethodDescriptor yX6_refuses.desc).map (fun d => d.parameters.length) = some 0 := by decide +kernel
/-- v >= low && v <= high over the machine's numbers -/
def inI (v lo hi : Int32) : Bool := decide (lo ≤ v) && decide (v ≤ hi)
theorem inI_n {a b : Int32} (x : Int32) (h1 : ¬ x < a) (h2 : ¬ b < x) : inI x a b = true := by
  simp only [inI, Bool.and_eq_true, decide_eq_true_eq]
  exact ⟨Int32.not_lt.mp h1, Int32.not_lt.mp h2⟩
theorem inI_lo {a b : Int32} (x : Int32) (h1 : x < a) : inI x a b = false := by
  simp only [inI, Bool.and_eq_false_iff, decide_eq_false_iff_not]
  exact Or.inl (Int32.not_le.mpr h1)
theorem inI_hi {a b : Int32} (x : Int32) (h1 : b < x) : inI x a b = false := by
  simp only [inI, Bool.and_eq_false_iff, decide_eq_false_iff_not]
  exact Or.inr (Int32.not_le.mpr h1)
set_option maxRecDepth 100000 in
set_option maxHeartbeats 4000000 in
theorem mX6_in (l : Launch) (D : va_G) (κ : Nat → ClassId) (x a b : Int32)  : sM l yX6_in wsX6_in { frames := 0, cells := 0, slots := 0, locals := 0 } D κ [.int (x), .int (a), .int (b)] (some (.int (nI (inI x a b).toNat))) := by
  refine zM_of (cc := cX6_in) (maxL := 3) (rt := (some .boolean)) [(0, .int (x)), (1, .int (a)), (2, .int (b))] (by decide +kernel) rfl (Nat.le_of_ble_eq_true rfl) rfl ?_
  intro p e s m args below meth c A C hr hk hnm
  have C : zC p s m args c cX6_in 3 wsX6_in RX6 D (zTy κ) A := C
  refine z_iload_n C dX6_in_0 0 rfl ?_
  refine z_iload_n C dX6_in_1 1 rfl ?_
  refine z_icmp_lt C 14 dX6_in_2 (by decide) (fun h1 => ?_) (fun h2 => ?_)
  · refine z_iconst (v := nI 0) C dX6_in_14 (by decide) ?_
    exact z_zret C hr hk (by decide) () (congrArg (fun b => some (Value.int (nI b.toNat))) (inI_lo x h1)) trivial (List.Perm.of_eq rfl) dX6_in_15 (Nat.le_refl _) (Nat.le_refl _)
  · refine z_iload_n C dX6_in_5 0 rfl ?_
    refine z_iload_n C dX6_in_6 2 rfl ?_
    refine z_icmp_gt C 14 dX6_in_7 (by decide) (fun h3 => ?_) (fun h4 => ?_)
    · refine z_iconst (v := nI 0) C dX6_in_14 (by decide) ?_
      exact z_zret C hr hk (by decide) () (congrArg (fun b => some (Value.int (nI b.toNat))) (inI_hi x h3)) trivial (List.Perm.of_eq rfl) dX6_in_15 (Nat.le_refl _) (Nat.le_refl _)
    · refine z_iconst (v := nI 1) C dX6_in_10 (by decide) ?_
      refine z_goto (tgt := 15) C dX6_in_11 (by decide) ?_
      exact z_zret C hr hk (by decide) () (congrArg (fun b => some (Value.int (nI b.toNat))) (inI_n x h2 h4)) trivial (List.Perm.of_eq rfl) dX6_in_15 (Nat.le_refl _) (Nat.le_refl _)
theorem hdX6_in : yX6_in.cls ≠ "java/lang/invoke/MethodHandle" ∧ yX6_in.cls ≠ "java/lang/invoke/VarHandle" ∧ (parseMethodDescriptor yX6_in.desc).map (fun d => d.parameters.length) = some 3 := by decide +kernel
set_option maxRecDepth 100000 in
set_option maxHeartbeats 4000000 in
theorem mX6_b (l : Launch) (D : va_G) (κ : Nat → ClassId) (x : Nat)  : sM l yX6_b wsX6_b { frames := 0, cells := 0, slots := 0, locals := 0 } D κ [.int (nI x)] (some (.int (nI (5 + 6 * x)))) := by
  refine zM_of (cc := cX6_b) (maxL := 1) (rt := (some .int)) [(0, .int (nI x))] (by decide +kernel) rfl (Nat.le_of_ble_eq_true rfl) rfl ?_
  intro p e s m args below meth c A C hr hk hnm
  have C : zC p s m args c cX6_b 1 wsX6_b RX6 D (zTy κ) A := C
  refine z_iconst (v := nI 5) C dX6_b_0 (by decide) ?_
  refine z_bipush (v := nI 6) C dX6_b_1 (by decide) ?_
  refine z_iload_n C dX6_b_3 0 rfl ?_
  refine zn_imul C dX6_b_4 ?_
  refine zn_iadd C dX6_b_5 ?_
  exact z_iret C hr hk () (rfl) trivial (List.Perm.of_eq rfl) dX6_b_6 (Nat.le_refl _) (Nat.le_refl _)
theorem hdX6_b : yX6_b.cls ≠ "java/lang/invoke/MethodHandle" ∧ yX6_b.cls ≠ "java/lang/invoke/VarHandle" ∧ (parseMethodDescriptor yX6_b.desc).map (fun d => d.parameters.length) = some 1 := by decide +kernel
set_option maxRecDepth 100000 in
set_option maxHeartbeats 4000000 in
theorem mX6_t (l : Launch) (D : va_G) (κ : Nat → ClassId) (x : Nat)  : sM l yX6_t wsX6_t { frames := 0, cells := 0, slots := 0, locals := 0 } D κ [.int (nI x)] (some (.int (nI (65 + 5 * x)))) := by
  refine zM_of (cc := cX6_t) (maxL := 1) (rt := (some .int)) [(0, .int (nI x))] (by decide +kernel) rfl (Nat.le_of_ble_eq_true rfl) rfl ?_
  intro p e s m args below meth c A C hr hk hnm
  have C : zC p s m args c cX6_t 1 wsX6_t RX6 D (zTy κ) A := C
  refine z_bipush (v := nI 65) C dX6_t_0 (by decide) ?_
  refine z_iconst (v := nI 5) C dX6_t_2 (by decide) ?_
  refine z_iload_n C dX6_t_3 0 rfl ?_
  refine zn_imul C dX6_t_4 ?_
  refine zn_iadd C dX6_t_5 ?_
  exact z_iret C hr hk () (rfl) trivial (List.Perm.of_eq rfl) dX6_t_6 (Nat.le_refl _) (Nat.le_refl _)
theorem hdX6_t : yX6_t.cls ≠ "java/lang/invoke/MethodHandle" ∧ yX6_t.cls ≠ "java/lang/invoke/VarHandle" ∧ (parseMethodDescriptor yX6_t.desc).map (fun d => d.parameters.length) = some 1 := by decide +kernel
set_option maxRecDepth 100000 in
set_option maxHeartbeats 4000000 in
theorem mX6_passed (l : Launch) (D : va_G) (κ : Nat → ClassId) (x y : Nat)  : sM l yX6_passed wsX6_passed { frames := 0, cells := 0, slots := 0, locals := 0 } D κ [.int (nI x), .int (nI y)] (some (.int (nI (90 + 10 * x + y)))) := by
  refine zM_of (cc := cX6_passed) (maxL := 2) (rt := (some .int)) [(0, .int (nI x)), (1, .int (nI y))] (by decide +kernel) rfl (Nat.le_of_ble_eq_true rfl) rfl ?_
  intro p e s m args below meth c A C hr hk hnm
  have C : zC p s m args c cX6_passed 2 wsX6_passed RX6 D (zTy κ) A := C
  refine z_bipush (v := nI 90) C dX6_passed_0 (by decide) ?_
  refine z_bipush (v := nI 10) C dX6_passed_2 (by decide) ?_
  refine z_iload_n C dX6_passed_4 0 rfl ?_
  refine zn_imul C dX6_passed_5 ?_
  refine zn_iadd C dX6_passed_6 ?_
  refine z_iload_n C dX6_passed_7 1 rfl ?_
  refine zn_iadd C dX6_passed_8 ?_
  exact z_iret C hr hk () (rfl) trivial (List.Perm.of_eq rfl) dX6_passed_9 (Nat.le_refl _) (Nat.le_refl _)
theorem hdX6_passed : yX6_passed.cls ≠ "java/lang/invoke/MethodHandle" ∧ yX6_passed.cls ≠ "java/lang/invoke/VarHandle" ∧ (parseMethodDescriptor yX6_passed.desc).map (fun d => d.parameters.length) = some 2 := by decide +kernel
end M1
