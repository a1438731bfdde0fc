section M16
theorem Fy.upp {a b : Nat → Nat} {k x : Nat} (h : Fy a b) : Fy (upN a k x) (upN b k x) := fun j hj => by
  rw [upN_if, upN_if, h j hj]
set_option maxRecDepth 100000 in
set_option maxHeartbeats 4000000 in
theorem mX6_load_no (l : Launch) (D : va_G) (κ : Nat → ClassId) (Ad : Nat → Nat) (eo : Int32) (ip : Nat → Int32) (v nw aw od sv ot : Nat → Nat) (M : Nat) (x : Int32) (hB : Bd M nw) (hx : isB (v 9 + 1) x = false) (h9 : v 9 ≤ 600) : mM l yX6_load wsX6_load { frames := 10, cells := 0, slots := 0, locals := 219 } D κ Ad [.int (x)] eo ip v nw aw od sv ot (some (.int (nI 0))) eo ip (upN v 1 1) nw aw od sv ot := by
  refine zM_of (cc := cX6_load) (maxL := 2) (rt := (some .int)) [(0, .ref (Ad 0)), (1, .int (x))] (by decide +kernel) rfl (Nat.le_of_ble_eq_true rfl) rfl ?_
  intro p e s m args below meth c A C hr hk hnm
  have C : zC p s m args c cX6_load 2 wsX6_load RX6 D (zTy κ) A := C
  have hin : ∀ w ∈ wsX60, w ∈ wsX6_load := fun w h => List.mem_cons_of_mem _ (List.mem_append_right _ h)
  have k180 : Cond.fieldLink RX6 180 "PeatRailwayModel" "inputMany" "I" ∈ wsX6_load := by decide +kernel
  have k129 : Cond.fieldLink RX6 129 "PeatRailwayModel" "fault" "I" ∈ wsX6_load := by decide +kernel
  have k198 : Cond.fieldLink RX6 198 "PeatRailwayModel" "errorKind" "I" ∈ wsX6_load := by decide +kernel
  have k132 : Cond.fieldLink RX6 132 "PeatRailwayModel" "faultAt" "I" ∈ wsX6_load := by decide +kernel
  have k32 : Cond.fieldLink RX6 32 "PeatRailwayModel" "errorOffset" "I" ∈ wsX6_load := by decide +kernel
  have k95 : Cond.fieldLink RX6 95 "PeatRailwayModel" "oldMany" "I" ∈ wsX6_load := by decide +kernel
  have k204 : Cond.fieldLink RX6 204 "PeatRailwayModel" "savedSet" "I" ∈ wsX6_load := by decide +kernel
  have k13 : Cond.fieldLink RX6 13 "PeatRailwayModel" "now" "[I" ∈ wsX6_load := by decide +kernel
  obtain ⟨hM1, hM2, ht0, hnb, hnt, hj, hp⟩ := id hB
  have hx : inI x (nI 0) (nI (v 9)) = false := by have h8 := hx; simp only [isB] at h8; rw [pk_sub (by omega), Nat.add_sub_cancel] at h8; exact h8
  refine z_iload_n C dX6_load_0 1 rfl ?_
  refine z_iconst (v := nI 0) C dX6_load_1 (by decide) ?_
  refine z_aload_n C dX6_load_2 0 rfl ?_
  refine zm_get_inputMany C hin (x := v 9) k180 dX6_load_3 rfl ?_
  refine zs_call C (mX6_in_no l D κ (x) (nI 0) (nI (v 9)) hx) gX6_load_X6_in rfl rfl rfl hdX6_in ⟨Nat.le_of_ble_eq_true rfl, Nat.le_of_ble_eq_true rfl⟩ rfl (Nat.le_of_ble_eq_true rfl) dX6_load_6 ⟨Nat.zero_le _, Nat.zero_le _⟩ ?_
  refine zb_if_ne C 18 dX6_load_9 (by decide) (fun q => absurd q (by decide)) (fun _ => ?_)
  refine z_aload_n C dX6_load_12 0 rfl ?_
  refine z_iconst (v := nI 1) C dX6_load_13 (by decide) ?_
  refine zm_call C (mX6_refuse l D κ Ad _ _ _ _ _ _ _ _ 1) gX6_load_X6_refuse rfl rfl rfl hdX6_refuse ⟨Nat.le_of_ble_eq_true rfl, Nat.le_of_ble_eq_true rfl⟩ rfl (Nat.le_of_ble_eq_true rfl) dX6_load_14 ⟨Nat.zero_le _, Nat.zero_le _⟩ ?_
  exact z_iret C hr hk () (rfl) trivial (List.Perm.of_eq rfl) dX6_load_17 (Nat.le_refl _) (Nat.le_refl _)
theorem hdX6_load : yX6_load.cls = RX6 ∧ yX6_load.cls ≠ "java/lang/invoke/MethodHandle" ∧ yX6_load.cls ≠ "java/lang/invoke/VarHandle" ∧ (parseMethodDescriptor yX6_load.desc).map (fun d => d.parameters.length) = some 1 := by decide +kernel
set_option maxRecDepth 100000 in
set_option maxHeartbeats 4000000 in
theorem mX6_load_err (l : Launch) (D : va_G) (κ : Nat → ClassId) (Ad : Nat → Nat) (eo : Int32) (ip : Nat → Int32) (v nw aw od sv ot : Nat → Nat) (k c0 o0 : Nat) (hk0 : k ≤ v 9) (h9 : v 9 ≤ 600) (hpt : pText ip k = .inl (c0, o0)) : zM l yX6_load wsX6_load { frames := 10, cells := 0, slots := 0, locals := 219 } D (zTy κ) [.ref (Ad 0), .int (nI k)] (MW κ Ad eo ip v nw aw od sv ot) (S := Nat → Nat) (fun _ => some (.int (nI 0))) (fun u => Fy (upN (upN (upN v 9 0) 12 c0) 1 2) u) (fun u => MW κ Ad (nI o0) ip u nw nw od sv ot) 0 0 := by
  refine zM_of (cc := cX6_load) (maxL := 2) (rt := (some .int)) [(0, .ref (Ad 0)), (1, .int (nI k))] (by decide +kernel) rfl (Nat.le_of_ble_eq_true rfl) rfl ?_
  intro p e s m args below meth c A C hr hk hnm
  have C : zC p s m args c cX6_load 2 wsX6_load RX6 D (zTy κ) A := C
  have hin : ∀ w ∈ wsX60, w ∈ wsX6_load := fun w h => List.mem_cons_of_mem _ (List.mem_append_right _ h)
  have k180 : Cond.fieldLink RX6 180 "PeatRailwayModel" "inputMany" "I" ∈ wsX6_load := by decide +kernel
  have k129 : Cond.fieldLink RX6 129 "PeatRailwayModel" "fault" "I" ∈ wsX6_load := by decide +kernel
  have k198 : Cond.fieldLink RX6 198 "PeatRailwayModel" "errorKind" "I" ∈ wsX6_load := by decide +kernel
  have k132 : Cond.fieldLink RX6 132 "PeatRailwayModel" "faultAt" "I" ∈ wsX6_load := by decide +kernel
  have k32 : Cond.fieldLink RX6 32 "PeatRailwayModel" "errorOffset" "I" ∈ wsX6_load := by decide +kernel
  have k95 : Cond.fieldLink RX6 95 "PeatRailwayModel" "oldMany" "I" ∈ wsX6_load := by decide +kernel
  have k204 : Cond.fieldLink RX6 204 "PeatRailwayModel" "savedSet" "I" ∈ wsX6_load := by decide +kernel
  have k13 : Cond.fieldLink RX6 13 "PeatRailwayModel" "now" "[I" ∈ wsX6_load := by decide +kernel
  refine z_iload_n C dX6_load_0 1 rfl ?_
  refine z_iconst (v := nI 0) C dX6_load_1 (by decide) ?_
  refine z_aload_n C dX6_load_2 0 rfl ?_
  refine zm_get_inputMany C hin (x := v 9) k180 dX6_load_3 rfl ?_
  refine zs_call C (mX6_in_yes l D κ k 0 (v 9) (by omega) (by omega) (by omega)) gX6_load_X6_in rfl rfl rfl hdX6_in ⟨Nat.le_of_ble_eq_true rfl, Nat.le_of_ble_eq_true rfl⟩ rfl (Nat.le_of_ble_eq_true rfl) dX6_load_6 ⟨Nat.zero_le _, Nat.zero_le _⟩ ?_
  refine zb_if_ne C 18 dX6_load_9 (by decide) (fun _ => ?_) (fun q => absurd q (by decide))
  refine z_aload_n C dX6_load_18 0 rfl ?_
  refine zm_call C (mX6_putsAside l D κ Ad _ _ _ _ _ _ _ _) gX6_load_X6_putsAside rfl rfl rfl hdX6_putsAside ⟨Nat.le_of_ble_eq_true rfl, Nat.le_of_ble_eq_true rfl⟩ rfl (Nat.le_of_ble_eq_true rfl) dX6_load_19 ⟨Nat.zero_le _, Nat.zero_le _⟩ ?_
  refine z_aload_n C dX6_load_22 0 rfl ?_
  refine z_iload_n C dX6_load_23 1 rfl ?_
  refine zm_callVN C (mX6_readsText l D κ Ad _ _ _ _ _ _ _ _ k (by omega)) gX6_load_X6_readsText rfl rfl rfl hdX6_readsText ⟨Nat.le_of_ble_eq_true rfl, Nat.le_of_ble_eq_true rfl⟩ rfl (Nat.le_of_ble_eq_true rfl) dX6_load_24 ⟨Nat.zero_le _, Nat.zero_le _⟩ (fun v1 n1 hv1 => ?_)
  rcases hv1 with ⟨c9, o9, hp, e19, e20, hc1, hc2, hy⟩ | ⟨hp, e9, hy⟩
  · obtain ⟨hcc, hoo⟩ : c9 = c0 ∧ o9 = o0 := by rw [hpt] at hp; cases hp; exact ⟨rfl, rfl⟩
    rw [hcc] at e19 hc1 hc2
    rw [hoo] at e20
    refine z_aload_n C dX6_load_27 0 rfl ?_
    refine z_iconst (v := nI 0) C dX6_load_28 (by decide) ?_
    refine zm_put_inputMany C hin k180 dX6_load_29 ?_
    refine z_aload_n C dX6_load_32 0 rfl ?_
    refine z_aload_n C dX6_load_33 0 rfl ?_
    refine zm_get_fault C hin (x := v1 19) k129 dX6_load_34 rfl ?_
    refine zm_put_errorKind C hin k198 dX6_load_37 ?_
    refine z_aload_n C dX6_load_40 0 rfl ?_
    refine z_aload_n C dX6_load_41 0 rfl ?_
    refine zm_get_fault C hin (x := v1 19) k129 dX6_load_42 rfl ?_
    refine zn_if_ne C 52 dX6_load_45 (by decide) (by omega) (fun _ => ?_) (fun q => absurd q (by omega))
    refine z_aload_n C dX6_load_52 0 rfl ?_
    refine zm_get_faultAt C hin (x := v1 20) k132 dX6_load_53 rfl ?_
    refine zm_put_errorOffset C hin k32 dX6_load_56 ?_
    refine z_aload_n C dX6_load_59 0 rfl ?_
    refine zm_get_fault C hin (x := v1 19) k129 dX6_load_60 rfl ?_
    refine zn_if_eq C 76 dX6_load_63 (by decide) (by omega) (fun q => absurd q (by omega)) (fun _ => ?_)
    refine z_aload_n C dX6_load_66 0 rfl ?_
    refine zm_call C (mX6_putsBack l D κ Ad _ _ _ _ _ _ _ _) gX6_load_X6_putsBack rfl rfl rfl hdX6_putsBack ⟨Nat.le_of_ble_eq_true rfl, Nat.le_of_ble_eq_true rfl⟩ rfl (Nat.le_of_ble_eq_true rfl) dX6_load_67 ⟨Nat.zero_le _, Nat.zero_le _⟩ ?_
    refine z_aload_n C dX6_load_70 0 rfl ?_
    refine z_iconst (v := nI 2) C dX6_load_71 (by decide) ?_
    refine zm_call C (mX6_refuse l D κ Ad _ _ _ _ _ _ _ _ 2) gX6_load_X6_refuse rfl rfl rfl hdX6_refuse ⟨Nat.le_of_ble_eq_true rfl, Nat.le_of_ble_eq_true rfl⟩ rfl (Nat.le_of_ble_eq_true rfl) dX6_load_72 ⟨Nat.zero_le _, Nat.zero_le _⟩ ?_
    exact z_iret C hr hk (upN (upN (upN v1 9 0) 12 (v1 19)) 1 2) rfl (by rw [e19]; exact hy.upp.upp.upp) (List.Perm.of_eq (by rw [e20])) dX6_load_75 (Nat.le_refl _) (Nat.le_refl _)
  · rw [hpt] at hp; cases hp
set_option maxRecDepth 100000 in
set_option maxHeartbeats 4000000 in
theorem mX6_load_ok (l : Launch) (D : va_G) (κ : Nat → ClassId) (Ad : Nat → Nat) (eo : Int32) (ip : Nat → Int32) (v nw aw od sv ot : Nat → Nat) (k : Nat) (σ1 : Nat → Nat) (hk0 : k ≤ v 9) (h9 : v 9 ≤ 600) (hpt : pText ip k = .inr σ1) : zM l yX6_load wsX6_load { frames := 10, cells := 0, slots := 0, locals := 219 } D (zTy κ) [.ref (Ad 0), .int (nI k)] (MW κ Ad eo ip v nw aw od sv ot) (S := Nat → Nat) (fun _ => some (.int (nI (σ1 1)))) (fun u => Fy (upN (upN (upN (upN (upN v 9 0) 12 0) 5 0) 7 0) 1 0) u) (fun u => MW κ Ad (-1) ip u σ1 nw od sv ot) 0 0 := by
  refine zM_of (cc := cX6_load) (maxL := 2) (rt := (some .int)) [(0, .ref (Ad 0)), (1, .int (nI k))] (by decide +kernel) rfl (Nat.le_of_ble_eq_true rfl) rfl ?_
  intro p e s m args below meth c A C hr hk hnm
  have C : zC p s m args c cX6_load 2 wsX6_load RX6 D (zTy κ) A := C
  have hin : ∀ w ∈ wsX60, w ∈ wsX6_load := fun w h => List.mem_cons_of_mem _ (List.mem_append_right _ h)
  have k180 : Cond.fieldLink RX6 180 "PeatRailwayModel" "inputMany" "I" ∈ wsX6_load := by decide +kernel
  have k129 : Cond.fieldLink RX6 129 "PeatRailwayModel" "fault" "I" ∈ wsX6_load := by decide +kernel
  have k198 : Cond.fieldLink RX6 198 "PeatRailwayModel" "errorKind" "I" ∈ wsX6_load := by decide +kernel
  have k132 : Cond.fieldLink RX6 132 "PeatRailwayModel" "faultAt" "I" ∈ wsX6_load := by decide +kernel
  have k32 : Cond.fieldLink RX6 32 "PeatRailwayModel" "errorOffset" "I" ∈ wsX6_load := by decide +kernel
  have k95 : Cond.fieldLink RX6 95 "PeatRailwayModel" "oldMany" "I" ∈ wsX6_load := by decide +kernel
  have k204 : Cond.fieldLink RX6 204 "PeatRailwayModel" "savedSet" "I" ∈ wsX6_load := by decide +kernel
  have k13 : Cond.fieldLink RX6 13 "PeatRailwayModel" "now" "[I" ∈ wsX6_load := by decide +kernel
  refine z_iload_n C dX6_load_0 1 rfl ?_
  refine z_iconst (v := nI 0) C dX6_load_1 (by decide) ?_
  refine z_aload_n C dX6_load_2 0 rfl ?_
  refine zm_get_inputMany C hin (x := v 9) k180 dX6_load_3 rfl ?_
  refine zs_call C (mX6_in_yes l D κ k 0 (v 9) (by omega) (by omega) (by omega)) gX6_load_X6_in rfl rfl rfl hdX6_in ⟨Nat.le_of_ble_eq_true rfl, Nat.le_of_ble_eq_true rfl⟩ rfl (Nat.le_of_ble_eq_true rfl) dX6_load_6 ⟨Nat.zero_le _, Nat.zero_le _⟩ ?_
  refine zb_if_ne C 18 dX6_load_9 (by decide) (fun _ => ?_) (fun q => absurd q (by decide))
  refine z_aload_n C dX6_load_18 0 rfl ?_
  refine zm_call C (mX6_putsAside l D κ Ad _ _ _ _ _ _ _ _) gX6_load_X6_putsAside rfl rfl rfl hdX6_putsAside ⟨Nat.le_of_ble_eq_true rfl, Nat.le_of_ble_eq_true rfl⟩ rfl (Nat.le_of_ble_eq_true rfl) dX6_load_19 ⟨Nat.zero_le _, Nat.zero_le _⟩ ?_
  refine z_aload_n C dX6_load_22 0 rfl ?_
  refine z_iload_n C dX6_load_23 1 rfl ?_
  refine zm_callVN C (mX6_readsText l D κ Ad _ _ _ _ _ _ _ _ k (by omega)) gX6_load_X6_readsText rfl rfl rfl hdX6_readsText ⟨Nat.le_of_ble_eq_true rfl, Nat.le_of_ble_eq_true rfl⟩ rfl (Nat.le_of_ble_eq_true rfl) dX6_load_24 ⟨Nat.zero_le _, Nat.zero_le _⟩ (fun v1 n1 hv1 => ?_)
  rcases hv1 with ⟨c9, o9, hp, e19, e20, hc1, hc2, hy⟩ | ⟨hp, e19, hy⟩
  · rw [hpt] at hp; cases hp
  · have hnn : n1 = σ1 := by rw [hpt] at hp; exact (Sum.inr.inj hp).symm
    rw [hnn]
    refine z_aload_n C dX6_load_27 0 rfl ?_
    refine z_iconst (v := nI 0) C dX6_load_28 (by decide) ?_
    refine zm_put_inputMany C hin k180 dX6_load_29 ?_
    refine z_aload_n C dX6_load_32 0 rfl ?_
    refine z_aload_n C dX6_load_33 0 rfl ?_
    refine zm_get_fault C hin (x := v1 19) k129 dX6_load_34 rfl ?_
    refine zm_put_errorKind C hin k198 dX6_load_37 ?_
    refine z_aload_n C dX6_load_40 0 rfl ?_
    refine z_aload_n C dX6_load_41 0 rfl ?_
    refine zm_get_fault C hin (x := v1 19) k129 dX6_load_42 rfl ?_
    refine zn_if_ne C 52 dX6_load_45 (by decide) (by omega) (fun q => absurd q (by omega)) (fun _ => ?_)
    refine z_iconst (v := (-1)) C dX6_load_48 (by decide) ?_
    refine z_goto (tgt := 56) C dX6_load_49 (by decide) ?_
    refine zm_put_errorOffset C hin k32 dX6_load_56 ?_
    refine z_aload_n C dX6_load_59 0 rfl ?_
    refine zm_get_fault C hin (x := v1 19) k129 dX6_load_60 rfl ?_
    refine zn_if_eq C 76 dX6_load_63 (by decide) (by omega) (fun _ => ?_) (fun q => absurd q (by omega))
    refine z_aload_n C dX6_load_76 0 rfl ?_
    refine z_iconst (v := nI 0) C dX6_load_77 (by decide) ?_
    refine zm_put_oldMany C hin k95 dX6_load_78 ?_
    refine z_aload_n C dX6_load_81 0 rfl ?_
    refine z_iconst (v := nI 0) C dX6_load_82 (by decide) ?_
    refine zm_put_savedSet C hin k204 dX6_load_83 ?_
    refine z_aload_n C dX6_load_86 0 rfl ?_
    refine z_aload_n C dX6_load_87 0 rfl ?_
    refine zm_get_now C hin k13 dX6_load_88 ?_
    refine z_iconst (v := nI 1) C dX6_load_91 (by decide) ?_
    refine zm_ald_now C (by omega) dX6_load_92 ?_
    refine zm_call C (mX6_told l D κ Ad _ _ _ _ _ _ _ _ (nI (σ1 1))) gX6_load_X6_told rfl rfl rfl hdX6_told ⟨Nat.le_of_ble_eq_true rfl, Nat.le_of_ble_eq_true rfl⟩ rfl (Nat.le_of_ble_eq_true rfl) dX6_load_93 ⟨Nat.zero_le _, Nat.zero_le _⟩ ?_
    exact z_iret C hr hk (upN (upN (upN (upN (upN v1 9 0) 12 (v1 19)) 5 0) 7 0) 1 0) rfl (by rw [e19]; exact hy.upp.upp.upp.upp.upp) (List.Perm.of_eq rfl) dX6_load_96 (Nat.le_refl _) (Nat.le_refl _)
end M16
