section Q4
set_option maxRecDepth 100000 in
set_option maxHeartbeats 4000000 in
theorem mX2_pullLever_ok (l : Launch) (D : va_G) (κ : Nat → ClassId) (Pa Sa : Nat → Nat) (g : Nat → Nat → Nat) (eo : Int32) (v : Nat → Nat) (tx : Nat → Int32) (σ : Nat → Nat) (M : Nat) (b : Nat) (hr : Rep g σ) (hv : Inv M σ) (hb : b < σ 1) (h0 : rsn σ b = 0) : zM l yX2_pullLever wsX2_pullLever { frames := 2, cells := 0, slots := 0, locals := 42 } D (zTy κ) [.ref (Pa 0), .int (nI b)] (SW κ Sa g ++ PW κ Pa Sa eo v tx) (S := Unit) (fun _ => (some (.int (nI 1)))) (fun _ => True) (fun _ => SW κ Sa (up2 g 8 b 1) ++ PW κ Pa Sa eo v tx) 0 0 := by
  refine zM_of (cc := cX2_pullLever) (maxL := 2) (rt := (some .boolean)) [(0, .ref (Pa 0)), (1, .int (nI b))] (by decide +kernel) rfl (Nat.le_of_ble_eq_true rfl) rfl ?_
  intro p e s m args below meth c A C hr9 hk hnm
  have C : zC p s m args c cX2_pullLever 2 wsX2_pullLever RX2 D (zTy κ) A := C
  have hin2 : ∀ w ∈ wsX20, w ∈ wsX2_pullLever := fun w h => List.mem_cons_of_mem _ (List.mem_append_left _ (List.mem_append_right _ h))
  have hin4 : ∀ w ∈ wsX40, w ∈ wsX2_pullLever := fun w h => List.mem_cons_of_mem _ (List.mem_append_right _ h)
  have k22 : Cond.fieldLink RX2 22 "PeatRailway$Parser" "result" "LPeatRailway$State;" ∈ wsX2_pullLever := by decide +kernel
  have k125 : Cond.fieldLink RX2 125 "PeatRailway$Parser" "takenStart" "I" ∈ wsX2_pullLever := by decide +kernel
  have k146 : Cond.fieldLink RX2 146 "PeatRailway$State" "clear" "[Z" ∈ wsX2_pullLever := by decide +kernel
  refine z_eq (ws' := SW κ Sa g ++ (PW κ Pa Sa eo v tx ++ [])) ?_ rfl rfl rfl rfl
  have hn1 := hv.n1
  have hn2 := hv.n2
  have hb9 := hv.blk hb
  have ht9 := hv.tr b
  have hrs := rsn_le σ b
  refine z_aload_n C dX2_pullLever_0 0 rfl ?_
  refine zq_get_result C hin2 k22 dX2_pullLever_1 ?_
  refine z_iload_n C dX2_pullLever_4 1 rfl ?_
  refine zc_call C (mX4_leverObstacle l D κ Sa _ _ _ b hr hv (by omega)) gX2_pullLever_X4_leverObstacle rfl rfl rfl hdX4_leverObstacle ⟨Nat.le_of_ble_eq_true rfl, Nat.le_of_ble_eq_true rfl⟩ rfl (Nat.le_of_ble_eq_true rfl) dX2_pullLever_5 ⟨Nat.zero_le _, Nat.zero_le _⟩ ?_
  refine zn_if_eq C 21 dX2_pullLever_8 (by decide) (by omega) (fun h1 => ?_) (fun h2 => ?_)
  · refine z_aload_n C dX2_pullLever_21 0 rfl ?_
    refine zq_get_result C hin2 k22 dX2_pullLever_22 ?_
    refine zs_get_clear C hin4 k146 dX2_pullLever_25 ?_
    refine z_iload_n C dX2_pullLever_28 1 rfl ?_
    refine z_iconst (v := nI 1) C dX2_pullLever_29 (by decide) ?_
    refine zs_ast_clear C (by omega) (by omega) dX2_pullLever_30 ?_
    refine z_iconst (v := nI 1) C dX2_pullLever_31 (by decide) ?_
    exact z_zret C hr9 hk (by decide) (()) (rfl) (trivial) (List.Perm.of_eq rfl) dX2_pullLever_32 (Nat.le_refl _) (Nat.le_refl _)
  · exfalso; omega
theorem hdX2_pullLever : yX2_pullLever.cls = RX2 ∧ yX2_pullLever.cls ≠ "java/lang/invoke/MethodHandle" ∧ yX2_pullLever.cls ≠ "java/lang/invoke/VarHandle" ∧ (parseMethodDescriptor yX2_pullLever.desc).map (fun d => d.parameters.length) = some 1 := by decide +kernel
set_option maxRecDepth 100000 in
set_option maxHeartbeats 4000000 in
theorem mX2_pullLever_no (l : Launch) (D : va_G) (κ : Nat → ClassId) (Pa Sa : Nat → Nat) (g : Nat → Nat → Nat) (eo : Int32) (v : Nat → Nat) (tx : Nat → Int32) (σ : Nat → Nat) (M : Nat) (b : Nat) (hr : Rep g σ) (hv : Inv M σ) (hb : b < σ 1) (h0 : rsn σ b ≠ 0) : zM l yX2_pullLever wsX2_pullLever { frames := 2, cells := 0, slots := 0, locals := 42 } D (zTy κ) [.ref (Pa 0), .int (nI b)] (SW κ Sa g ++ PW κ Pa Sa eo v tx) (S := Unit) (fun _ => (some (.int (nI 0)))) (fun _ => True) (fun _ => SW κ Sa g ++ PW κ Pa Sa (nI (v 9)) (upN v 2 5) tx) 0 0 := by
  refine zM_of (cc := cX2_pullLever) (maxL := 2) (rt := (some .boolean)) [(0, .ref (Pa 0)), (1, .int (nI b))] (by decide +kernel) rfl (Nat.le_of_ble_eq_true rfl) rfl ?_
  intro p e s m args below meth c A C hr9 hk hnm
  have C : zC p s m args c cX2_pullLever 2 wsX2_pullLever RX2 D (zTy κ) A := C
  have hin2 : ∀ w ∈ wsX20, w ∈ wsX2_pullLever := fun w h => List.mem_cons_of_mem _ (List.mem_append_left _ (List.mem_append_right _ h))
  have hin4 : ∀ w ∈ wsX40, w ∈ wsX2_pullLever := fun w h => List.mem_cons_of_mem _ (List.mem_append_right _ h)
  have k22 : Cond.fieldLink RX2 22 "PeatRailway$Parser" "result" "LPeatRailway$State;" ∈ wsX2_pullLever := by decide +kernel
  have k125 : Cond.fieldLink RX2 125 "PeatRailway$Parser" "takenStart" "I" ∈ wsX2_pullLever := by decide +kernel
  have k146 : Cond.fieldLink RX2 146 "PeatRailway$State" "clear" "[Z" ∈ wsX2_pullLever := by decide +kernel
  refine z_eq (ws' := SW κ Sa g ++ (PW κ Pa Sa eo v tx ++ [])) ?_ rfl rfl rfl rfl
  have hn1 := hv.n1
  have hn2 := hv.n2
  have hb9 := hv.blk hb
  have ht9 := hv.tr b
  have hrs := rsn_le σ b
  refine z_aload_n C dX2_pullLever_0 0 rfl ?_
  refine zq_get_result C hin2 k22 dX2_pullLever_1 ?_
  refine z_iload_n C dX2_pullLever_4 1 rfl ?_
  refine zc_call C (mX4_leverObstacle l D κ Sa _ _ _ b hr hv (by omega)) gX2_pullLever_X4_leverObstacle rfl rfl rfl hdX4_leverObstacle ⟨Nat.le_of_ble_eq_true rfl, Nat.le_of_ble_eq_true rfl⟩ rfl (Nat.le_of_ble_eq_true rfl) dX2_pullLever_5 ⟨Nat.zero_le _, Nat.zero_le _⟩ ?_
  refine zn_if_eq C 21 dX2_pullLever_8 (by decide) (by omega) (fun h1 => ?_) (fun h2 => ?_)
  · exfalso; omega
  · refine z_aload_n C dX2_pullLever_11 0 rfl ?_
    refine z_iconst (v := nI 5) C dX2_pullLever_12 (by decide) ?_
    refine z_aload_n C dX2_pullLever_13 0 rfl ?_
    refine zq_get_takenStart C hin2 (x := v 9) k125 dX2_pullLever_14 rfl ?_
    refine zq_call C (mX2_fail l D κ Pa Sa _ _ _ 5 (v 9) ) gX2_pullLever_X2_fail rfl rfl rfl hdX2_fail ⟨Nat.le_of_ble_eq_true rfl, Nat.le_of_ble_eq_true rfl⟩ rfl (Nat.le_of_ble_eq_true rfl) dX2_pullLever_17 ⟨Nat.zero_le _, Nat.zero_le _⟩ ?_
    exact z_zret C hr9 hk (zb_nar (false)) (()) (rfl) (trivial) (List.Perm.of_eq rfl) dX2_pullLever_20 (Nat.le_refl _) (Nat.le_refl _)
set_option maxRecDepth 100000 in
set_option maxHeartbeats 4000000 in
theorem mX2_showDanger_ok (l : Launch) (D : va_G) (κ : Nat → ClassId) (Pa Sa : Nat → Nat) (g : Nat → Nat → Nat) (eo : Int32) (v : Nat → Nat) (tx : Nat → Int32) (σ : Nat → Nat) (M : Nat) (b : Nat) (hr : Rep g σ) (hv : Inv M σ) (hb : b < σ 1) (h0 : σ (5 + 6 * b + 4) ≠ 0) : zM l yX2_showDanger wsX2_showDanger { frames := 1, cells := 0, slots := 0, locals := 22 } D (zTy κ) [.ref (Pa 0), .int (nI b)] (SW κ Sa g ++ PW κ Pa Sa eo v tx) (S := Unit) (fun _ => (some (.int (nI 1)))) (fun _ => True) (fun _ => SW κ Sa (up2 g 8 b 0) ++ PW κ Pa Sa eo v tx) 0 0 := by
  refine zM_of (cc := cX2_showDanger) (maxL := 2) (rt := (some .boolean)) [(0, .ref (Pa 0)), (1, .int (nI b))] (by decide +kernel) rfl (Nat.le_of_ble_eq_true rfl) rfl ?_
  intro p e s m args below meth c A C hr9 hk hnm
  have C : zC p s m args c cX2_showDanger 2 wsX2_showDanger RX2 D (zTy κ) A := C
  have hin2 : ∀ w ∈ wsX20, w ∈ wsX2_showDanger := fun w h => List.mem_cons_of_mem _ (List.mem_append_left _ (List.mem_append_right _ h))
  have hin4 : ∀ w ∈ wsX40, w ∈ wsX2_showDanger := fun w h => List.mem_cons_of_mem _ (List.mem_append_right _ h)
  have k22 : Cond.fieldLink RX2 22 "PeatRailway$Parser" "result" "LPeatRailway$State;" ∈ wsX2_showDanger := by decide +kernel
  have k146 : Cond.fieldLink RX2 146 "PeatRailway$State" "clear" "[Z" ∈ wsX2_showDanger := by decide +kernel
  have k125 : Cond.fieldLink RX2 125 "PeatRailway$Parser" "takenStart" "I" ∈ wsX2_showDanger := by decide +kernel
  refine z_eq (ws' := SW κ Sa g ++ (PW κ Pa Sa eo v tx ++ [])) ?_ rfl rfl rfl rfl
  have hn1 := hv.n1
  have hn2 := hv.n2
  have hb9 := hv.blk hb
  have ht9 := hv.tr b
  have hrs := rsn_le σ b
  refine z_aload_n C dX2_showDanger_0 0 rfl ?_
  refine zq_get_result C hin2 k22 dX2_showDanger_1 ?_
  refine zs_get_clear C hin4 k146 dX2_showDanger_4 ?_
  refine z_iload_n C dX2_showDanger_7 1 rfl ?_
  refine zs_ald_clear C (x := σ (5 + 6 * b + 4)) (by omega) (hr.1.b8 (by omega)) dX2_showDanger_8 ?_
  refine zn_if_ne C 22 dX2_showDanger_9 (by decide) (by omega) (fun h1 => ?_) (fun h2 => ?_)
  · refine z_aload_n C dX2_showDanger_22 0 rfl ?_
    refine zq_get_result C hin2 k22 dX2_showDanger_23 ?_
    refine zs_get_clear C hin4 k146 dX2_showDanger_26 ?_
    refine z_iload_n C dX2_showDanger_29 1 rfl ?_
    refine z_iconst (v := nI 0) C dX2_showDanger_30 (by decide) ?_
    refine zs_ast_clear C (by omega) (by omega) dX2_showDanger_31 ?_
    refine z_iconst (v := nI 1) C dX2_showDanger_32 (by decide) ?_
    exact z_zret C hr9 hk (by decide) (()) (rfl) (trivial) (List.Perm.of_eq rfl) dX2_showDanger_33 (Nat.le_refl _) (Nat.le_refl _)
  · exfalso; omega
theorem hdX2_showDanger : yX2_showDanger.cls = RX2 ∧ yX2_showDanger.cls ≠ "java/lang/invoke/MethodHandle" ∧ yX2_showDanger.cls ≠ "java/lang/invoke/VarHandle" ∧ (parseMethodDescriptor yX2_showDanger.desc).map (fun d => d.parameters.length) = some 1 := by decide +kernel
set_option maxRecDepth 100000 in
set_option maxHeartbeats 4000000 in
theorem mX2_showDanger_no (l : Launch) (D : va_G) (κ : Nat → ClassId) (Pa Sa : Nat → Nat) (g : Nat → Nat → Nat) (eo : Int32) (v : Nat → Nat) (tx : Nat → Int32) (σ : Nat → Nat) (M : Nat) (b : Nat) (hr : Rep g σ) (hv : Inv M σ) (hb : b < σ 1) (h0 : σ (5 + 6 * b + 4) = 0) : zM l yX2_showDanger wsX2_showDanger { frames := 1, cells := 0, slots := 0, locals := 22 } D (zTy κ) [.ref (Pa 0), .int (nI b)] (SW κ Sa g ++ PW κ Pa Sa eo v tx) (S := Unit) (fun _ => (some (.int (nI 0)))) (fun _ => True) (fun _ => SW κ Sa g ++ PW κ Pa Sa (nI (v 9)) (upN v 2 5) tx) 0 0 := by
  refine zM_of (cc := cX2_showDanger) (maxL := 2) (rt := (some .boolean)) [(0, .ref (Pa 0)), (1, .int (nI b))] (by decide +kernel) rfl (Nat.le_of_ble_eq_true rfl) rfl ?_
  intro p e s m args below meth c A C hr9 hk hnm
  have C : zC p s m args c cX2_showDanger 2 wsX2_showDanger RX2 D (zTy κ) A := C
  have hin2 : ∀ w ∈ wsX20, w ∈ wsX2_showDanger := fun w h => List.mem_cons_of_mem _ (List.mem_append_left _ (List.mem_append_right _ h))
  have hin4 : ∀ w ∈ wsX40, w ∈ wsX2_showDanger := fun w h => List.mem_cons_of_mem _ (List.mem_append_right _ h)
  have k22 : Cond.fieldLink RX2 22 "PeatRailway$Parser" "result" "LPeatRailway$State;" ∈ wsX2_showDanger := by decide +kernel
  have k146 : Cond.fieldLink RX2 146 "PeatRailway$State" "clear" "[Z" ∈ wsX2_showDanger := by decide +kernel
  have k125 : Cond.fieldLink RX2 125 "PeatRailway$Parser" "takenStart" "I" ∈ wsX2_showDanger := by decide +kernel
  refine z_eq (ws' := SW κ Sa g ++ (PW κ Pa Sa eo v tx ++ [])) ?_ rfl rfl rfl rfl
  have hn1 := hv.n1
  have hn2 := hv.n2
  have hb9 := hv.blk hb
  have ht9 := hv.tr b
  have hrs := rsn_le σ b
  refine z_aload_n C dX2_showDanger_0 0 rfl ?_
  refine zq_get_result C hin2 k22 dX2_showDanger_1 ?_
  refine zs_get_clear C hin4 k146 dX2_showDanger_4 ?_
  refine z_iload_n C dX2_showDanger_7 1 rfl ?_
  refine zs_ald_clear C (x := σ (5 + 6 * b + 4)) (by omega) (hr.1.b8 (by omega)) dX2_showDanger_8 ?_
  refine zn_if_ne C 22 dX2_showDanger_9 (by decide) (by omega) (fun h1 => ?_) (fun h2 => ?_)
  · exfalso; omega
  · refine z_aload_n C dX2_showDanger_12 0 rfl ?_
    refine z_iconst (v := nI 5) C dX2_showDanger_13 (by decide) ?_
    refine z_aload_n C dX2_showDanger_14 0 rfl ?_
    refine zq_get_takenStart C hin2 (x := v 9) k125 dX2_showDanger_15 rfl ?_
    refine zq_call C (mX2_fail l D κ Pa Sa _ _ _ 5 (v 9) ) gX2_showDanger_X2_fail rfl rfl rfl hdX2_fail ⟨Nat.le_of_ble_eq_true rfl, Nat.le_of_ble_eq_true rfl⟩ rfl (Nat.le_of_ble_eq_true rfl) dX2_showDanger_18 ⟨Nat.zero_le _, Nat.zero_le _⟩ ?_
    exact z_zret C hr9 hk (zb_nar (false)) (()) (rfl) (trivial) (List.Perm.of_eq rfl) dX2_showDanger_21 (Nat.le_refl _) (Nat.le_refl _)
set_option maxRecDepth 100000 in
set_option maxHeartbeats 4000000 in
theorem mX2_mend_ok (l : Launch) (D : va_G) (κ : Nat → ClassId) (Pa Sa : Nat → Nat) (g : Nat → Nat → Nat) (eo : Int32) (v : Nat → Nat) (tx : Nat → Int32) (σ : Nat → Nat) (M : Nat) (b : Nat) (hr : Rep g σ) (hv : Inv M σ) (hb : b < σ 1) (h0 : trAt σ b = 0) : zM l yX2_mend wsX2_mend { frames := 1, cells := 0, slots := 0, locals := 22 } D (zTy κ) [.ref (Pa 0), .int (nI b)] (SW κ Sa g ++ PW κ Pa Sa eo v tx) (S := Unit) (fun _ => (some (.int (nI 1)))) (fun _ => True) (fun _ => SW κ Sa (up2 g 6 b 0) ++ PW κ Pa Sa eo v tx) 0 0 := by
  refine zM_of (cc := cX2_mend) (maxL := 2) (rt := (some .boolean)) [(0, .ref (Pa 0)), (1, .int (nI b))] (by decide +kernel) rfl (Nat.le_of_ble_eq_true rfl) rfl ?_
  intro p e s m args below meth c A C hr9 hk hnm
  have C : zC p s m args c cX2_mend 2 wsX2_mend RX2 D (zTy κ) A := C
  have hin2 : ∀ w ∈ wsX20, w ∈ wsX2_mend := fun w h => List.mem_cons_of_mem _ (List.mem_append_left _ (List.mem_append_right _ h))
  have hin4 : ∀ w ∈ wsX40, w ∈ wsX2_mend := fun w h => List.mem_cons_of_mem _ (List.mem_append_right _ h)
  have k22 : Cond.fieldLink RX2 22 "PeatRailway$Parser" "result" "LPeatRailway$State;" ∈ wsX2_mend := by decide +kernel
  have k150 : Cond.fieldLink RX2 150 "PeatRailway$State" "occupant" "[I" ∈ wsX2_mend := by decide +kernel
  have k125 : Cond.fieldLink RX2 125 "PeatRailway$Parser" "takenStart" "I" ∈ wsX2_mend := by decide +kernel
  have k154 : Cond.fieldLink RX2 154 "PeatRailway$State" "depth" "[I" ∈ wsX2_mend := by decide +kernel
  refine z_eq (ws' := SW κ Sa g ++ (PW κ Pa Sa eo v tx ++ [])) ?_ rfl rfl rfl rfl
  have hn1 := hv.n1
  have hn2 := hv.n2
  have hb9 := hv.blk hb
  have ht9 := hv.tr b
  have hrs := rsn_le σ b
  refine z_aload_n C dX2_mend_0 0 rfl ?_
  refine zq_get_result C hin2 k22 dX2_mend_1 ?_
  refine zs_get_occupant C hin4 k150 dX2_mend_4 ?_
  refine z_iload_n C dX2_mend_7 1 rfl ?_
  refine zs_ald_occupant C (x := trAt σ b) (by omega) (hr.2 _ (by omega)) dX2_mend_8 ?_
  refine z_iconst (v := (-1)) C dX2_mend_9 (by decide) ?_
  refine zt_icmp_eq C 23 dX2_mend_10 (by decide) (by omega) (fun h1 => ?_) (fun h2 => ?_)
  · refine z_aload_n C dX2_mend_23 0 rfl ?_
    refine zq_get_result C hin2 k22 dX2_mend_24 ?_
    refine zs_get_depth C hin4 k154 dX2_mend_27 ?_
    refine z_iload_n C dX2_mend_30 1 rfl ?_
    refine z_iconst (v := nI 0) C dX2_mend_31 (by decide) ?_
    refine zs_ast_depth C (by omega) dX2_mend_32 ?_
    refine z_iconst (v := nI 1) C dX2_mend_33 (by decide) ?_
    exact z_zret C hr9 hk (by decide) (()) (rfl) (trivial) (List.Perm.of_eq rfl) dX2_mend_34 (Nat.le_refl _) (Nat.le_refl _)
  · exfalso; omega
theorem hdX2_mend : yX2_mend.cls = RX2 ∧ yX2_mend.cls ≠ "java/lang/invoke/MethodHandle" ∧ yX2_mend.cls ≠ "java/lang/invoke/VarHandle" ∧ (parseMethodDescriptor yX2_mend.desc).map (fun d => d.parameters.length) = some 1 := by decide +kernel
set_option maxRecDepth 100000 in
set_option maxHeartbeats 4000000 in
theorem mX2_mend_no (l : Launch) (D : va_G) (κ : Nat → ClassId) (Pa Sa : Nat → Nat) (g : Nat → Nat → Nat) (eo : Int32) (v : Nat → Nat) (tx : Nat → Int32) (σ : Nat → Nat) (M : Nat) (b : Nat) (hr : Rep g σ) (hv : Inv M σ) (hb : b < σ 1) (h0 : trAt σ b ≠ 0) : zM l yX2_mend wsX2_mend { frames := 1, cells := 0, slots := 0, locals := 22 } D (zTy κ) [.ref (Pa 0), .int (nI b)] (SW κ Sa g ++ PW κ Pa Sa eo v tx) (S := Unit) (fun _ => (some (.int (nI 0)))) (fun _ => True) (fun _ => SW κ Sa g ++ PW κ Pa Sa (nI (v 9)) (upN v 2 5) tx) 0 0 := by
  refine zM_of (cc := cX2_mend) (maxL := 2) (rt := (some .boolean)) [(0, .ref (Pa 0)), (1, .int (nI b))] (by decide +kernel) rfl (Nat.le_of_ble_eq_true rfl) rfl ?_
  intro p e s m args below meth c A C hr9 hk hnm
  have C : zC p s m args c cX2_mend 2 wsX2_mend RX2 D (zTy κ) A := C
  have hin2 : ∀ w ∈ wsX20, w ∈ wsX2_mend := fun w h => List.mem_cons_of_mem _ (List.mem_append_left _ (List.mem_append_right _ h))
  have hin4 : ∀ w ∈ wsX40, w ∈ wsX2_mend := fun w h => List.mem_cons_of_mem _ (List.mem_append_right _ h)
  have k22 : Cond.fieldLink RX2 22 "PeatRailway$Parser" "result" "LPeatRailway$State;" ∈ wsX2_mend := by decide +kernel
  have k150 : Cond.fieldLink RX2 150 "PeatRailway$State" "occupant" "[I" ∈ wsX2_mend := by decide +kernel
  have k125 : Cond.fieldLink RX2 125 "PeatRailway$Parser" "takenStart" "I" ∈ wsX2_mend := by decide +kernel
  have k154 : Cond.fieldLink RX2 154 "PeatRailway$State" "depth" "[I" ∈ wsX2_mend := by decide +kernel
  refine z_eq (ws' := SW κ Sa g ++ (PW κ Pa Sa eo v tx ++ [])) ?_ rfl rfl rfl rfl
  have hn1 := hv.n1
  have hn2 := hv.n2
  have hb9 := hv.blk hb
  have ht9 := hv.tr b
  have hrs := rsn_le σ b
  refine z_aload_n C dX2_mend_0 0 rfl ?_
  refine zq_get_result C hin2 k22 dX2_mend_1 ?_
  refine zs_get_occupant C hin4 k150 dX2_mend_4 ?_
  refine z_iload_n C dX2_mend_7 1 rfl ?_
  refine zs_ald_occupant C (x := trAt σ b) (by omega) (hr.2 _ (by omega)) dX2_mend_8 ?_
  refine z_iconst (v := (-1)) C dX2_mend_9 (by decide) ?_
  refine zt_icmp_eq C 23 dX2_mend_10 (by decide) (by omega) (fun h1 => ?_) (fun h2 => ?_)
  · exfalso; omega
  · refine z_aload_n C dX2_mend_13 0 rfl ?_
    refine z_iconst (v := nI 5) C dX2_mend_14 (by decide) ?_
    refine z_aload_n C dX2_mend_15 0 rfl ?_
    refine zq_get_takenStart C hin2 (x := v 9) k125 dX2_mend_16 rfl ?_
    refine zq_call C (mX2_fail l D κ Pa Sa _ _ _ 5 (v 9) ) gX2_mend_X2_fail rfl rfl rfl hdX2_fail ⟨Nat.le_of_ble_eq_true rfl, Nat.le_of_ble_eq_true rfl⟩ rfl (Nat.le_of_ble_eq_true rfl) dX2_mend_19 ⟨Nat.zero_le _, Nat.zero_le _⟩ ?_
    exact z_zret C hr9 hk (zb_nar (false)) (()) (rfl) (trivial) (List.Perm.of_eq rfl) dX2_mend_22 (Nat.le_refl _) (Nat.le_refl _)
end Q4
