section S1
def bLm (σ : Nat → Nat) (b : Nat) : Nat := if σ (5 + 6 * b + 3) = 1 then σ (5 + 6 * b + 2) else 0
section ACC
variable {M : Nat} {σ : Nat → Nat}
theorem Inv.n1 (h : Inv M σ) : σ 1 ≤ 10 := h.2.1.2.2.2.2.1
theorem Inv.n2 (h : Inv M σ) : σ 2 ≤ 5 := h.2.1.2.2.2.2.2
theorem Inv.m (h : Inv M σ) : 20 ≤ M ∧ M < 1073741824 := ⟨h.1.1, h.1.2.1⟩
theorem Inv.bd (h : Inv M σ) (j : Nat) (h1 : 5 ≤ j) (h2 : j < 140) : σ j < 1073741824 := Nat.lt_of_le_of_lt (h.1.2.2.2.2.2.1 j h1 h2) h.1.2.1
theorem Inv.tk (h : Inv M σ) : σ 0 < 1073741824 := Nat.lt_of_le_of_lt h.1.2.2.1 h.1.2.1
theorem Inv.blk (h : Inv M σ) {c : Nat} (hc : c < σ 1) : 1 ≤ σ (5 + 6 * c + 0) ∧ σ (5 + 6 * c + 0) ≤ 20 ∧ σ (5 + 6 * c + 1) ≤ 9 ∧ 1 ≤ σ (5 + 6 * c + 2) ∧ σ (5 + 6 * c + 2) ≤ 5 ∧ σ (5 + 6 * c + 3) ≤ 1 ∧ σ (5 + 6 * c + 4) ≤ 1 ∧ σ (5 + 6 * c + 5) ≤ 1 ∧ (σ (5 + 6 * c + 3) = 0 → σ (5 + 6 * c + 2) = 5) := h.2.1.1 c hc
theorem Inv.trn (h : Inv M σ) {t : Nat} (ht : t < σ 2) : 1 ≤ σ (65 + 5 * t + 0) ∧ σ (65 + 5 * t + 0) ≤ 12 ∧ 1 ≤ σ (65 + 5 * t + 1) ∧ σ (65 + 5 * t + 1) ≤ 5 ∧ σ (65 + 5 * t + 2) < σ 1 ∧ σ (65 + 5 * t + 3) ≤ σ (5 + 6 * σ (65 + 5 * t + 2) + 0) := h.2.1.2.1 t ht
theorem Inv.blm (h : Inv M σ) {b : Nat} (hb : b < σ 1) : (bLm σ b = 0 ∧ σ (5 + 6 * b + 3) = 0 ∧ σ (5 + 6 * b + 2) = 5) ∨ (bLm σ b = σ (5 + 6 * b + 2) ∧ σ (5 + 6 * b + 3) = 1) := by
  have h9 := h.blk hb
  simp only [bLm]
  split
  · exact Or.inr ⟨rfl, by assumption⟩
  · exact Or.inl ⟨rfl, by omega, h9.2.2.2.2.2.2.2.2 (by omega)⟩
theorem Inv.tr (h : Inv M σ) (b : Nat) : trAt σ b ≤ 5 := Nat.le_trans (by have := trL_le σ b (σ 2) 0; simp only [trAt]; omega) h.n2
end ACC
set_option maxRecDepth 100000 in
set_option maxHeartbeats 4000000 in
theorem mX4_bends (l : Launch) (D : va_G) (κ : Nat → ClassId) (Sa : Nat → Nat) (g : Nat → Nat → Nat) (σ : Nat → Nat) (M : Nat) (b : Nat) (hr : Rep g σ) (hv : Inv M σ) (hb : b < σ 1) : cM l yX4_bends wsX4_bends { frames := 0, cells := 0, slots := 0, locals := 0 } D κ Sa [.int (nI b)] g (some (.int (nI (decide (σ (5 + 6 * b + 3) = 1)).toNat))) g := by
  refine zM_of (cc := cX4_bends) (maxL := 2) (rt := (some .boolean)) [(0, .ref (Sa 0)), (1, .int (nI b))] (by decide +kernel) rfl (Nat.le_of_ble_eq_true rfl) rfl ?_
  intro p e s m args below meth c A C hr9 hk hnm
  have C : zC p s m args c cX4_bends 2 wsX4_bends RX4 D (zTy κ) A := C
  have hin4 : ∀ w ∈ wsX40, w ∈ wsX4_bends := fun w h => List.mem_cons_of_mem _ (List.mem_append_right _ h)
  have k18 : Cond.fieldLink RX4 18 "PeatRailway$State" "bendLimit" "[I" ∈ wsX4_bends := by decide +kernel
  refine z_eq (ws' := SW κ Sa g ++ []) ?_ rfl rfl rfl rfl
  have hn1 := hv.n1
  have hn2 := hv.n2
  have hl9 := hv.blm hb
  have hb9 := hv.blk hb
  refine z_aload_n C dX4_bends_0 0 rfl ?_
  refine zs_get_bendLimit C hin4 k18 dX4_bends_1 ?_
  refine z_iload_n C dX4_bends_4 1 rfl ?_
  refine zs_ald_bendLimit C (x := bLm σ b) (by omega) (hr.1.b7 (by omega)) dX4_bends_5 ?_
  refine zn_if_eq C 13 dX4_bends_6 (by decide) (by omega) (fun h1 => ?_) (fun h2 => ?_)
  · refine z_iconst (v := nI 0) C dX4_bends_13 (by decide) ?_
    exact z_zret C hr9 hk (by decide) (()) (congrArg (fun b : Bool => some (Value.int (nI b.toNat))) (show (decide (σ (5 + 6 * b + 3) = 1)) = false from by rw [decide_eq_false (by omega)])) (trivial) (List.Perm.of_eq rfl) dX4_bends_14 (Nat.le_refl _) (Nat.le_refl _)
  · refine z_iconst (v := nI 1) C dX4_bends_9 (by decide) ?_
    refine z_goto (tgt := 14) C dX4_bends_10 (by decide) ?_
    exact z_zret C hr9 hk (by decide) (()) (congrArg (fun b : Bool => some (Value.int (nI b.toNat))) (show (decide (σ (5 + 6 * b + 3) = 1)) = true from by rw [decide_eq_true (by omega)])) (trivial) (List.Perm.of_eq rfl) dX4_bends_14 (Nat.le_refl _) (Nat.le_refl _)
theorem hdX4_bends : yX4_bends.cls = RX4 ∧ yX4_bends.cls ≠ "java/lang/invoke/MethodHandle" ∧ yX4_bends.cls ≠ "java/lang/invoke/VarHandle" ∧ (parseMethodDescriptor yX4_bends.desc).map (fun d => d.parameters.length) = some 1 := by decide +kernel
set_option maxRecDepth 100000 in
set_option maxHeartbeats 4000000 in
theorem mX4_speedLimit (l : Launch) (D : va_G) (κ : Nat → ClassId) (Sa : Nat → Nat) (g : Nat → Nat → Nat) (σ : Nat → Nat) (M : Nat) (b : Nat) (hr : Rep g σ) (hv : Inv M σ) (hb : b < σ 1) : cM l yX4_speedLimit wsX4_speedLimit { frames := 0, cells := 0, slots := 0, locals := 0 } D κ Sa [.int (nI b)] g (some (.int (nI (σ (5 + 6 * b + 2))))) g := by
  refine zM_of (cc := cX4_speedLimit) (maxL := 2) (rt := (some .int)) [(0, .ref (Sa 0)), (1, .int (nI b))] (by decide +kernel) rfl (Nat.le_of_ble_eq_true rfl) rfl ?_
  intro p e s m args below meth c A C hr9 hk hnm
  have C : zC p s m args c cX4_speedLimit 2 wsX4_speedLimit RX4 D (zTy κ) A := C
  have hin4 : ∀ w ∈ wsX40, w ∈ wsX4_speedLimit := fun w h => List.mem_cons_of_mem _ (List.mem_append_right _ h)
  have k18 : Cond.fieldLink RX4 18 "PeatRailway$State" "bendLimit" "[I" ∈ wsX4_speedLimit := by decide +kernel
  refine z_eq (ws' := SW κ Sa g ++ []) ?_ rfl rfl rfl rfl
  have hn1 := hv.n1
  have hn2 := hv.n2
  have hl9 := hv.blm hb
  have hb9 := hv.blk hb
  refine z_aload_n C dX4_speedLimit_0 0 rfl ?_
  refine zs_get_bendLimit C hin4 k18 dX4_speedLimit_1 ?_
  refine z_iload_n C dX4_speedLimit_4 1 rfl ?_
  refine zs_ald_bendLimit C (x := bLm σ b) (by omega) (hr.1.b7 (by omega)) dX4_speedLimit_5 ?_
  refine zn_if_ne C 13 dX4_speedLimit_6 (by decide) (by omega) (fun h1 => ?_) (fun h2 => ?_)
  · refine z_aload_n C dX4_speedLimit_13 0 rfl ?_
    refine zs_get_bendLimit C hin4 k18 dX4_speedLimit_14 ?_
    refine z_iload_n C dX4_speedLimit_17 1 rfl ?_
    refine zs_ald_bendLimit C (x := bLm σ b) (by omega) (hr.1.b7 (by omega)) dX4_speedLimit_18 ?_
    exact z_iret C hr9 hk (()) (congrArg (fun n => some (Value.int (nI n))) (show σ (5 + 6 * b + 2) = bLm σ b from by omega)) (trivial) (List.Perm.of_eq rfl) dX4_speedLimit_19 (Nat.le_refl _) (Nat.le_refl _)
  · refine z_iconst (v := nI 5) C dX4_speedLimit_9 (by decide) ?_
    refine z_goto (tgt := 19) C dX4_speedLimit_10 (by decide) ?_
    exact z_iret C hr9 hk (()) (congrArg (fun n => some (Value.int (nI n))) (show σ (5 + 6 * b + 2) = 5 from by omega)) (trivial) (List.Perm.of_eq rfl) dX4_speedLimit_19 (Nat.le_refl _) (Nat.le_refl _)
theorem hdX4_speedLimit : yX4_speedLimit.cls = RX4 ∧ yX4_speedLimit.cls ≠ "java/lang/invoke/MethodHandle" ∧ yX4_speedLimit.cls ≠ "java/lang/invoke/VarHandle" ∧ (parseMethodDescriptor yX4_speedLimit.desc).map (fun d => d.parameters.length) = some 1 := by decide +kernel
set_option maxRecDepth 100000 in
set_option maxHeartbeats 4000000 in
theorem mX4_speedNow (l : Launch) (D : va_G) (κ : Nat → ClassId) (Sa : Nat → Nat) (g : Nat → Nat → Nat) (σ : Nat → Nat) (M : Nat) (t : Nat) (hr : Rep g σ) (hv : Inv M σ) (ht : t < σ 2) : cM l yX4_speedNow wsX4_speedNow { frames := 1, cells := 0, slots := 0, locals := 21 } D κ Sa [.int (nI t)] g (some (.int (nI (spd σ t)))) g := by
  refine zM_of (cc := cX4_speedNow) (maxL := 2) (rt := (some .int)) [(0, .ref (Sa 0)), (1, .int (nI t))] (by decide +kernel) rfl (Nat.le_of_ble_eq_true rfl) rfl ?_
  intro p e s m args below meth c A C hr9 hk hnm
  have C : zC p s m args c cX4_speedNow 2 wsX4_speedNow RX4 D (zTy κ) A := C
  have hin4 : ∀ w ∈ wsX40, w ∈ wsX4_speedNow := fun w h => List.mem_cons_of_mem _ (List.mem_append_right _ h)
  have k40 : Cond.fieldLink RX4 40 "PeatRailway$State" "topSpeed" "[I" ∈ wsX4_speedNow := by decide +kernel
  have k31 : Cond.fieldLink RX4 31 "PeatRailway$State" "place" "[I" ∈ wsX4_speedNow := by decide +kernel
  refine z_eq (ws' := SW κ Sa g ++ []) ?_ rfl rfl rfl rfl
  have hn1 := hv.n1
  have hn2 := hv.n2
  have ht9 := hv.trn ht
  have hb9 := hv.blk ht9.2.2.2.2.1
  refine z_aload_n C dX4_speedNow_0 0 rfl ?_
  refine zs_get_topSpeed C hin4 k40 dX4_speedNow_1 ?_
  refine z_iload_n C dX4_speedNow_4 1 rfl ?_
  refine zs_ald_topSpeed C (x := σ (65 + 5 * t + 1)) (by omega) (hr.1.t14 (by omega)) dX4_speedNow_5 ?_
  refine z_aload_n C dX4_speedNow_6 0 rfl ?_
  refine z_aload_n C dX4_speedNow_7 0 rfl ?_
  refine zs_get_place C hin4 k31 dX4_speedNow_8 ?_
  refine z_iload_n C dX4_speedNow_11 1 rfl ?_
  refine zs_ald_place C (x := σ (65 + 5 * t + 2)) (by omega) (hr.1.t11 (by omega)) dX4_speedNow_12 ?_
  refine zc_call C (mX4_speedLimit l D κ Sa _ _ _ (σ (65 + 5 * t + 2)) hr hv (by omega)) gX4_speedNow_X4_speedLimit rfl rfl rfl hdX4_speedLimit ⟨Nat.le_of_ble_eq_true rfl, Nat.le_of_ble_eq_true rfl⟩ rfl (Nat.le_of_ble_eq_true rfl) dX4_speedNow_13 ⟨Nat.zero_le _, Nat.zero_le _⟩ ?_
  refine zn_min C (show Cond.methodLink RX4 75 Lib.Math.min.name ∈ wsX4_speedNow from by decide +kernel) (by decide +kernel) (by decide +kernel) (by decide +kernel) (by omega) (by omega) ⟨Nat.le_of_ble_eq_true rfl, Nat.le_of_ble_eq_true rfl⟩ (Nat.le_of_ble_eq_true rfl) dX4_speedNow_16 ⟨Nat.zero_le _, Nat.zero_le _⟩ ?_
  exact z_iret C hr9 hk (()) (congrArg (fun n => some (Value.int (nI n))) (show spd σ t = if σ (5 + 6 * (σ (65 + 5 * t + 2)) + 2) < σ (65 + 5 * t + 1) then σ (5 + 6 * (σ (65 + 5 * t + 2)) + 2) else σ (65 + 5 * t + 1) from by simp only [spd]; split <;> split <;> omega)) (trivial) (List.Perm.of_eq rfl) dX4_speedNow_19 (Nat.le_refl _) (Nat.le_refl _)
theorem hdX4_speedNow : yX4_speedNow.cls = RX4 ∧ yX4_speedNow.cls ≠ "java/lang/invoke/MethodHandle" ∧ yX4_speedNow.cls ≠ "java/lang/invoke/VarHandle" ∧ (parseMethodDescriptor yX4_speedNow.desc).map (fun d => d.parameters.length) = some 1 := by decide +kernel
set_option maxRecDepth 100000 in
set_option maxHeartbeats 4000000 in
theorem mX4_passagesOf (l : Launch) (D : va_G) (κ : Nat → ClassId) (Sa : Nat → Nat) (g : Nat → Nat → Nat) (σ : Nat → Nat) (M : Nat) (t b : Nat) (hr : Rep g σ) (hv : Inv M σ) (ht : t < σ 2) (hb : b < 10) : cM l yX4_passagesOf wsX4_passagesOf { frames := 0, cells := 0, slots := 0, locals := 0 } D κ Sa [.int (nI t), .int (nI b)] g (some (.int (nI (σ (90 + 10 * t + b))))) g := by
  refine zM_of (cc := cX4_passagesOf) (maxL := 3) (rt := (some .int)) [(0, .ref (Sa 0)), (1, .int (nI t)), (2, .int (nI b))] (by decide +kernel) rfl (Nat.le_of_ble_eq_true rfl) rfl ?_
  intro p e s m args below meth c A C hr9 hk hnm
  have C : zC p s m args c cX4_passagesOf 3 wsX4_passagesOf RX4 D (zTy κ) A := C
  have hin4 : ∀ w ∈ wsX40, w ∈ wsX4_passagesOf := fun w h => List.mem_cons_of_mem _ (List.mem_append_right _ h)
  have k46 : Cond.fieldLink RX4 46 "PeatRailway$State" "passages" "[I" ∈ wsX4_passagesOf := by decide +kernel
  refine z_eq (ws' := SW κ Sa g ++ []) ?_ rfl rfl rfl rfl
  have hn1 := hv.n1
  have hn2 := hv.n2
  refine z_aload_n C dX4_passagesOf_0 0 rfl ?_
  refine zs_get_passages C hin4 k46 dX4_passagesOf_1 ?_
  refine z_iload_n C dX4_passagesOf_4 1 rfl ?_
  refine z_bipush (v := nI 10) C dX4_passagesOf_5 (by decide) ?_
  refine zn_imul C dX4_passagesOf_7 ?_
  refine z_iload_n C dX4_passagesOf_8 2 rfl ?_
  refine zn_iadd C dX4_passagesOf_9 ?_
  refine zs_ald_passages C (x := σ (90 + 10 * t + b)) (by omega) (hr.1.p16 (by omega) (by omega)) dX4_passagesOf_10 ?_
  exact z_iret C hr9 hk (()) (rfl) (trivial) (List.Perm.of_eq rfl) dX4_passagesOf_11 (Nat.le_refl _) (Nat.le_refl _)
theorem hdX4_passagesOf : yX4_passagesOf.cls = RX4 ∧ yX4_passagesOf.cls ≠ "java/lang/invoke/MethodHandle" ∧ yX4_passagesOf.cls ≠ "java/lang/invoke/VarHandle" ∧ (parseMethodDescriptor yX4_passagesOf.desc).map (fun d => d.parameters.length) = some 2 := by decide +kernel
set_option maxRecDepth 100000 in
set_option maxHeartbeats 4000000 in
theorem mX4_nextBlock (l : Launch) (D : va_G) (κ : Nat → ClassId) (Sa : Nat → Nat) (g : Nat → Nat → Nat) (σ : Nat → Nat) (M : Nat) (b : Nat) (hr : Rep g σ) (hv : Inv M σ) (hb : b < σ 1) : cM l yX4_nextBlock wsX4_nextBlock { frames := 0, cells := 0, slots := 0, locals := 0 } D κ Sa [.int (nI b)] g (some (.int (nI (aft σ b)))) g := by
  refine zM_of (cc := cX4_nextBlock) (maxL := 2) (rt := (some .int)) [(0, .ref (Sa 0)), (1, .int (nI b))] (by decide +kernel) rfl (Nat.le_of_ble_eq_true rfl) rfl ?_
  intro p e s m args below meth c A C hr9 hk hnm
  have C : zC p s m args c cX4_nextBlock 2 wsX4_nextBlock RX4 D (zTy κ) A := C
  have hin4 : ∀ w ∈ wsX40, w ∈ wsX4_nextBlock := fun w h => List.mem_cons_of_mem _ (List.mem_append_right _ h)
  have k53 : Cond.fieldLink RX4 53 "PeatRailway$State" "blockCount" "I" ∈ wsX4_nextBlock := by decide +kernel
  refine z_eq (ws' := SW κ Sa g ++ []) ?_ rfl rfl rfl rfl
  have hn1 := hv.n1
  have hn2 := hv.n2
  refine z_iload_n C dX4_nextBlock_0 1 rfl ?_
  refine z_iconst (v := nI 1) C dX4_nextBlock_1 (by decide) ?_
  refine zn_iadd C dX4_nextBlock_2 ?_
  refine z_aload_n C dX4_nextBlock_3 0 rfl ?_
  refine zs_get_blockCount C hin4 (x := σ 1) k53 dX4_nextBlock_4 hr.1.s1 ?_
  refine zn_icmp_ge C 16 dX4_nextBlock_7 (by decide) (by omega) (by omega) (fun h1 => ?_) (fun h2 => ?_)
  · refine z_iconst (v := nI 0) C dX4_nextBlock_16 (by decide) ?_
    exact z_iret C hr9 hk (()) (congrArg (fun n => some (Value.int (nI n))) (show aft σ b = 0 from by simp only [aft]; split <;> omega)) (trivial) (List.Perm.of_eq rfl) dX4_nextBlock_17 (Nat.le_refl _) (Nat.le_refl _)
  · refine z_iload_n C dX4_nextBlock_10 1 rfl ?_
    refine z_iconst (v := nI 1) C dX4_nextBlock_11 (by decide) ?_
    refine zn_iadd C dX4_nextBlock_12 ?_
    refine z_goto (tgt := 17) C dX4_nextBlock_13 (by decide) ?_
    exact z_iret C hr9 hk (()) (congrArg (fun n => some (Value.int (nI n))) (show aft σ b = b + 1 from by simp only [aft]; split <;> omega)) (trivial) (List.Perm.of_eq rfl) dX4_nextBlock_17 (Nat.le_refl _) (Nat.le_refl _)
theorem hdX4_nextBlock : yX4_nextBlock.cls = RX4 ∧ yX4_nextBlock.cls ≠ "java/lang/invoke/MethodHandle" ∧ yX4_nextBlock.cls ≠ "java/lang/invoke/VarHandle" ∧ (parseMethodDescriptor yX4_nextBlock.desc).map (fun d => d.parameters.length) = some 1 := by decide +kernel
set_option maxRecDepth 100000 in
set_option maxHeartbeats 4000000 in
theorem mX4_occupied (l : Launch) (D : va_G) (κ : Nat → ClassId) (Sa : Nat → Nat) (g : Nat → Nat → Nat) (σ : Nat → Nat) (M : Nat) (b : Nat) (hr : Rep g σ) (hv : Inv M σ) (hb : b < σ 1) : cM l yX4_occupied wsX4_occupied { frames := 0, cells := 0, slots := 0, locals := 0 } D κ Sa [.int (nI b)] g (some (.int (nI (occ σ b).toNat))) g := by
  refine zM_of (cc := cX4_occupied) (maxL := 2) (rt := (some .boolean)) [(0, .ref (Sa 0)), (1, .int (nI b))] (by decide +kernel) rfl (Nat.le_of_ble_eq_true rfl) rfl ?_
  intro p e s m args below meth c A C hr9 hk hnm
  have C : zC p s m args c cX4_occupied 2 wsX4_occupied RX4 D (zTy κ) A := C
  have hin4 : ∀ w ∈ wsX40, w ∈ wsX4_occupied := fun w h => List.mem_cons_of_mem _ (List.mem_append_right _ h)
  have k28 : Cond.fieldLink RX4 28 "PeatRailway$State" "occupant" "[I" ∈ wsX4_occupied := by decide +kernel
  have k25 : Cond.fieldLink RX4 25 "PeatRailway$State" "lost" "[I" ∈ wsX4_occupied := by decide +kernel
  refine z_eq (ws' := SW κ Sa g ++ []) ?_ rfl rfl rfl rfl
  have hn1 := hv.n1
  have hn2 := hv.n2
  have ho9 := hv.tr b
  have hb9 := hv.blk hb
  refine z_aload_n C dX4_occupied_0 0 rfl ?_
  refine zs_get_occupant C hin4 k28 dX4_occupied_1 ?_
  refine z_iload_n C dX4_occupied_4 1 rfl ?_
  refine zs_ald_occupant C (x := trAt σ b) (by omega) (hr.2 _ (by omega)) dX4_occupied_5 ?_
  refine z_iconst (v := (-1)) C dX4_occupied_6 (by decide) ?_
  refine zt_icmp_ne C 19 dX4_occupied_7 (by decide) (by omega) (fun h1 => ?_) (fun h2 => ?_)
  · refine z_iconst (v := nI 1) C dX4_occupied_19 (by decide) ?_
    refine z_goto (tgt := 24) C dX4_occupied_20 (by decide) ?_
    exact z_zret C hr9 hk (by decide) (()) (congrArg (fun b : Bool => some (Value.int (nI b.toNat))) (show (occ σ b) = true from by simp only [occ]; split <;> simp only [decide_eq_true_eq] <;> omega)) (trivial) (List.Perm.of_eq rfl) dX4_occupied_24 (Nat.le_refl _) (Nat.le_refl _)
  · refine z_aload_n C dX4_occupied_10 0 rfl ?_
    refine zs_get_lost C hin4 k25 dX4_occupied_11 ?_
    refine z_iload_n C dX4_occupied_14 1 rfl ?_
    refine zs_ald_lost C (x := σ (5 + 6 * b + 5)) (by omega) (hr.1.b9 (by omega)) dX4_occupied_15 ?_
    refine zn_if_le C 23 dX4_occupied_16 (by decide) (by omega) (fun h3 => ?_) (fun h4 => ?_)
    · refine z_iconst (v := nI 0) C dX4_occupied_23 (by decide) ?_
      exact z_zret C hr9 hk (by decide) (()) (congrArg (fun b : Bool => some (Value.int (nI b.toNat))) (show (occ σ b) = false from by simp only [occ]; rw [if_neg (by omega), decide_eq_false (by omega)])) (trivial) (List.Perm.of_eq rfl) dX4_occupied_24 (Nat.le_refl _) (Nat.le_refl _)
    · refine z_iconst (v := nI 1) C dX4_occupied_19 (by decide) ?_
      refine z_goto (tgt := 24) C dX4_occupied_20 (by decide) ?_
      exact z_zret C hr9 hk (by decide) (()) (congrArg (fun b : Bool => some (Value.int (nI b.toNat))) (show (occ σ b) = true from by simp only [occ]; split <;> simp only [decide_eq_true_eq] <;> omega)) (trivial) (List.Perm.of_eq rfl) dX4_occupied_24 (Nat.le_refl _) (Nat.le_refl _)
theorem hdX4_occupied : yX4_occupied.cls = RX4 ∧ yX4_occupied.cls ≠ "java/lang/invoke/MethodHandle" ∧ yX4_occupied.cls ≠ "java/lang/invoke/VarHandle" ∧ (parseMethodDescriptor yX4_occupied.desc).map (fun d => d.parameters.length) = some 1 := by decide +kernel
set_option maxRecDepth 100000 in
set_option maxHeartbeats 4000000 in
theorem mX4_opensTo (l : Launch) (D : va_G) (κ : Nat → ClassId) (Sa : Nat → Nat) (g : Nat → Nat → Nat) (σ : Nat → Nat) (M : Nat) (b : Nat) (hr : Rep g σ) (hv : Inv M σ) (hb : b < σ 1) : cM l yX4_opensTo wsX4_opensTo { frames := 1, cells := 0, slots := 0, locals := 21 } D κ Sa [.int (nI b)] g (some (.int (nI (if σ (5 + 6 * b + 4) = 1 then !occ σ b else false).toNat))) g := by
  refine zM_of (cc := cX4_opensTo) (maxL := 2) (rt := (some .boolean)) [(0, .ref (Sa 0)), (1, .int (nI b))] (by decide +kernel) rfl (Nat.le_of_ble_eq_true rfl) rfl ?_
  intro p e s m args below meth c A C hr9 hk hnm
  have C : zC p s m args c cX4_opensTo 2 wsX4_opensTo RX4 D (zTy κ) A := C
  have hin4 : ∀ w ∈ wsX40, w ∈ wsX4_opensTo := fun w h => List.mem_cons_of_mem _ (List.mem_append_right _ h)
  have k21 : Cond.fieldLink RX4 21 "PeatRailway$State" "clear" "[Z" ∈ wsX4_opensTo := by decide +kernel
  refine z_eq (ws' := SW κ Sa g ++ []) ?_ rfl rfl rfl rfl
  have hn1 := hv.n1
  have hn2 := hv.n2
  have ho9 := hv.tr b
  have hb9 := hv.blk hb
  refine z_aload_n C dX4_opensTo_0 0 rfl ?_
  refine zs_get_clear C hin4 k21 dX4_opensTo_1 ?_
  refine z_iload_n C dX4_opensTo_4 1 rfl ?_
  refine zs_ald_clear C (x := σ (5 + 6 * b + 4)) (by omega) (hr.1.b8 (by omega)) dX4_opensTo_5 ?_
  refine zn_if_eq C 21 dX4_opensTo_6 (by decide) (by omega) (fun h1 => ?_) (fun h2 => ?_)
  · refine z_iconst (v := nI 0) C dX4_opensTo_21 (by decide) ?_
    exact z_zret C hr9 hk (by decide) (()) (congrArg (fun b : Bool => some (Value.int (nI b.toNat))) (show (if σ (5 + 6 * b + 4) = 1 then !occ σ b else false) = false from by rw [if_neg (by omega)])) (trivial) (List.Perm.of_eq rfl) dX4_opensTo_22 (Nat.le_refl _) (Nat.le_refl _)
  · refine z_aload_n C dX4_opensTo_9 0 rfl ?_
    refine z_iload_n C dX4_opensTo_10 1 rfl ?_
    refine zc_call C (mX4_occupied l D κ Sa _ _ _ b hr hv (by omega)) gX4_opensTo_X4_occupied rfl rfl rfl hdX4_occupied ⟨Nat.le_of_ble_eq_true rfl, Nat.le_of_ble_eq_true rfl⟩ rfl (Nat.le_of_ble_eq_true rfl) dX4_opensTo_11 ⟨Nat.zero_le _, Nat.zero_le _⟩ ?_
    refine zb_if_ne C 21 dX4_opensTo_14 (by decide) (fun h3 => ?_) (fun h4 => ?_)
    · refine z_iconst (v := nI 0) C dX4_opensTo_21 (by decide) ?_
      exact z_zret C hr9 hk (by decide) (()) (congrArg (fun b : Bool => some (Value.int (nI b.toNat))) (show (if σ (5 + 6 * b + 4) = 1 then !occ σ b else false) = false from by rw [if_pos (by omega), h3]; rfl)) (trivial) (List.Perm.of_eq rfl) dX4_opensTo_22 (Nat.le_refl _) (Nat.le_refl _)
    · refine z_iconst (v := nI 1) C dX4_opensTo_17 (by decide) ?_
      refine z_goto (tgt := 22) C dX4_opensTo_18 (by decide) ?_
      exact z_zret C hr9 hk (by decide) (()) (congrArg (fun b : Bool => some (Value.int (nI b.toNat))) (show (if σ (5 + 6 * b + 4) = 1 then !occ σ b else false) = true from by rw [if_pos (by omega), h4]; rfl)) (trivial) (List.Perm.of_eq rfl) dX4_opensTo_22 (Nat.le_refl _) (Nat.le_refl _)
theorem hdX4_opensTo : yX4_opensTo.cls = RX4 ∧ yX4_opensTo.cls ≠ "java/lang/invoke/MethodHandle" ∧ yX4_opensTo.cls ≠ "java/lang/invoke/VarHandle" ∧ (parseMethodDescriptor yX4_opensTo.desc).map (fun d => d.parameters.length) = some 1 := by decide +kernel
set_option maxRecDepth 100000 in
set_option maxHeartbeats 4000000 in
theorem mX4_leverObstacle (l : Launch) (D : va_G) (κ : Nat → ClassId) (Sa : Nat → Nat) (g : Nat → Nat → Nat) (σ : Nat → Nat) (M : Nat) (b : Nat) (hr : Rep g σ) (hv : Inv M σ) (hb : b < σ 1) : cM l yX4_leverObstacle wsX4_leverObstacle { frames := 1, cells := 0, slots := 0, locals := 21 } D κ Sa [.int (nI b)] g (some (.int (nI (rsn σ b)))) g := by
  refine zM_of (cc := cX4_leverObstacle) (maxL := 2) (rt := (some .int)) [(0, .ref (Sa 0)), (1, .int (nI b))] (by decide +kernel) rfl (Nat.le_of_ble_eq_true rfl) rfl ?_
  intro p e s m args below meth c A C hr9 hk hnm
  have C : zC p s m args c cX4_leverObstacle 2 wsX4_leverObstacle RX4 D (zTy κ) A := C
  have hin4 : ∀ w ∈ wsX40, w ∈ wsX4_leverObstacle := fun w h => List.mem_cons_of_mem _ (List.mem_append_right _ h)
  have k28 : Cond.fieldLink RX4 28 "PeatRailway$State" "occupant" "[I" ∈ wsX4_leverObstacle := by decide +kernel
  have k25 : Cond.fieldLink RX4 25 "PeatRailway$State" "lost" "[I" ∈ wsX4_leverObstacle := by decide +kernel
  have k21 : Cond.fieldLink RX4 21 "PeatRailway$State" "clear" "[Z" ∈ wsX4_leverObstacle := by decide +kernel
  refine z_eq (ws' := SW κ Sa g ++ []) ?_ rfl rfl rfl rfl
  have hn1 := hv.n1
  have hn2 := hv.n2
  have ho9 := hv.tr b
  have hb9 := hv.blk hb
  have ha9 := aft_lt hb
  refine z_aload_n C dX4_leverObstacle_0 0 rfl ?_
  refine zs_get_occupant C hin4 k28 dX4_leverObstacle_1 ?_
  refine z_iload_n C dX4_leverObstacle_4 1 rfl ?_
  refine zs_ald_occupant C (x := trAt σ b) (by omega) (hr.2 _ (by omega)) dX4_leverObstacle_5 ?_
  refine z_iconst (v := (-1)) C dX4_leverObstacle_6 (by decide) ?_
  refine zt_icmp_eq C 12 dX4_leverObstacle_7 (by decide) (by omega) (fun h1 => ?_) (fun h2 => ?_)
  · refine z_aload_n C dX4_leverObstacle_12 0 rfl ?_
    refine zs_get_lost C hin4 k25 dX4_leverObstacle_13 ?_
    refine z_iload_n C dX4_leverObstacle_16 1 rfl ?_
    refine zs_ald_lost C (x := σ (5 + 6 * b + 5)) (by omega) (hr.1.b9 (by omega)) dX4_leverObstacle_17 ?_
    refine zn_if_le C 23 dX4_leverObstacle_18 (by decide) (by omega) (fun h3 => ?_) (fun h4 => ?_)
    · refine z_aload_n C dX4_leverObstacle_23 0 rfl ?_
      refine zs_get_clear C hin4 k21 dX4_leverObstacle_24 ?_
      refine z_iload_n C dX4_leverObstacle_27 1 rfl ?_
      refine zs_ald_clear C (x := σ (5 + 6 * b + 4)) (by omega) (hr.1.b8 (by omega)) dX4_leverObstacle_28 ?_
      refine zn_if_eq C 34 dX4_leverObstacle_29 (by decide) (by omega) (fun h5 => ?_) (fun h6 => ?_)
      · refine z_aload_n C dX4_leverObstacle_34 0 rfl ?_
        refine z_iload_n C dX4_leverObstacle_35 1 rfl ?_
        refine zc_call C (mX4_bends l D κ Sa _ _ _ b hr hv (by omega)) gX4_leverObstacle_X4_bends rfl rfl rfl hdX4_bends ⟨Nat.le_of_ble_eq_true rfl, Nat.le_of_ble_eq_true rfl⟩ rfl (Nat.le_of_ble_eq_true rfl) dX4_leverObstacle_36 ⟨Nat.zero_le _, Nat.zero_le _⟩ ?_
        refine zb_if_eq C 58 dX4_leverObstacle_39 (by decide) (fun h7 => ?_) (fun h8 => ?_)
        · refine z_iconst (v := nI 0) C dX4_leverObstacle_58 (by decide) ?_
          exact z_iret C hr9 hk (()) (congrArg (fun n => some (Value.int (nI n))) (show rsn σ b = 0 from by simp only [rsn]; rw [if_neg (by omega), if_neg (by omega), if_neg (by omega), if_neg (of_decide_eq_false h7)])) (trivial) (List.Perm.of_eq rfl) dX4_leverObstacle_59 (Nat.le_refl _) (Nat.le_refl _)
        · refine z_aload_n C dX4_leverObstacle_42 0 rfl ?_
          refine z_aload_n C dX4_leverObstacle_43 0 rfl ?_
          refine z_iload_n C dX4_leverObstacle_44 1 rfl ?_
          refine zc_call C (mX4_nextBlock l D κ Sa _ _ _ b hr hv (by omega)) gX4_leverObstacle_X4_nextBlock rfl rfl rfl hdX4_nextBlock ⟨Nat.le_of_ble_eq_true rfl, Nat.le_of_ble_eq_true rfl⟩ rfl (Nat.le_of_ble_eq_true rfl) dX4_leverObstacle_45 ⟨Nat.zero_le _, Nat.zero_le _⟩ ?_
          refine zc_call C (mX4_occupied l D κ Sa _ _ _ (aft σ b) hr hv (by omega)) gX4_leverObstacle_X4_occupied rfl rfl rfl hdX4_occupied ⟨Nat.le_of_ble_eq_true rfl, Nat.le_of_ble_eq_true rfl⟩ rfl (Nat.le_of_ble_eq_true rfl) dX4_leverObstacle_48 ⟨Nat.zero_le _, Nat.zero_le _⟩ ?_
          refine zb_if_eq C 58 dX4_leverObstacle_51 (by decide) (fun h9 => ?_) (fun h10 => ?_)
          · refine z_iconst (v := nI 0) C dX4_leverObstacle_58 (by decide) ?_
            exact z_iret C hr9 hk (()) (congrArg (fun n => some (Value.int (nI n))) (show rsn σ b = 0 from by simp only [rsn]; rw [if_neg (by omega), if_neg (by omega), if_neg (by omega), if_pos (of_decide_eq_true h8), if_neg (by rw [h9]; decide)])) (trivial) (List.Perm.of_eq rfl) dX4_leverObstacle_59 (Nat.le_refl _) (Nat.le_refl _)
          · refine z_iconst (v := nI 4) C dX4_leverObstacle_54 (by decide) ?_
            refine z_goto (tgt := 59) C dX4_leverObstacle_55 (by decide) ?_
            exact z_iret C hr9 hk (()) (congrArg (fun n => some (Value.int (nI n))) (show rsn σ b = 4 from by simp only [rsn]; rw [if_neg (by omega), if_neg (by omega), if_neg (by omega), if_pos (of_decide_eq_true h8), if_pos h10])) (trivial) (List.Perm.of_eq rfl) dX4_leverObstacle_59 (Nat.le_refl _) (Nat.le_refl _)
      · refine z_iconst (v := nI 3) C dX4_leverObstacle_32 (by decide) ?_
        exact z_iret C hr9 hk (()) (congrArg (fun n => some (Value.int (nI n))) (show rsn σ b = 3 from by simp only [rsn]; rw [if_neg (by omega), if_neg (by omega), if_pos (by omega)])) (trivial) (List.Perm.of_eq rfl) dX4_leverObstacle_33 (Nat.le_refl _) (Nat.le_refl _)
    · refine z_iconst (v := nI 2) C dX4_leverObstacle_21 (by decide) ?_
      exact z_iret C hr9 hk (()) (congrArg (fun n => some (Value.int (nI n))) (show rsn σ b = 2 from by simp only [rsn]; rw [if_neg (by omega), if_pos (by omega)])) (trivial) (List.Perm.of_eq rfl) dX4_leverObstacle_22 (Nat.le_refl _) (Nat.le_refl _)
  · refine z_iconst (v := nI 1) C dX4_leverObstacle_10 (by decide) ?_
    exact z_iret C hr9 hk (()) (congrArg (fun n => some (Value.int (nI n))) (show rsn σ b = 1 from by simp only [rsn]; rw [if_pos (by omega)])) (trivial) (List.Perm.of_eq rfl) dX4_leverObstacle_11 (Nat.le_refl _) (Nat.le_refl _)
theorem hdX4_leverObstacle : yX4_leverObstacle.cls = RX4 ∧ yX4_leverObstacle.cls ≠ "java/lang/invoke/MethodHandle" ∧ yX4_leverObstacle.cls ≠ "java/lang/invoke/VarHandle" ∧ (parseMethodDescriptor yX4_leverObstacle.desc).map (fun d => d.parameters.length) = some 1 := by decide +kernel
set_option maxRecDepth 100000 in
set_option maxHeartbeats 4000000 in
theorem mX4_clearSignals (l : Launch) (D : va_G) (κ : Nat → ClassId) (Sa : Nat → Nat) (g : Nat → Nat → Nat) (σ : Nat → Nat) (M : Nat)  (hr : Rep g σ) (hv : Inv M σ) : cM l yX4_clearSignals wsX4_clearSignals { frames := 0, cells := 0, slots := 0, locals := 0 } D κ Sa [] g (some (.int (nI (sumL (fun b => σ (5 + 6 * b + 4)) (σ 1))))) g := by
  refine zM_of (cc := cX4_clearSignals) (maxL := 3) (rt := (some .int)) [(0, .ref (Sa 0))] (by decide +kernel) rfl (Nat.le_of_ble_eq_true rfl) rfl ?_
  intro p e s m args below meth c A C hr9 hk hnm
  have C : zC p s m args c cX4_clearSignals 3 wsX4_clearSignals RX4 D (zTy κ) A := C
  have hin4 : ∀ w ∈ wsX40, w ∈ wsX4_clearSignals := fun w h => List.mem_cons_of_mem _ (List.mem_append_right _ h)
  have k53 : Cond.fieldLink RX4 53 "PeatRailway$State" "blockCount" "I" ∈ wsX4_clearSignals := by decide +kernel
  have k21 : Cond.fieldLink RX4 21 "PeatRailway$State" "clear" "[Z" ∈ wsX4_clearSignals := by decide +kernel
  refine z_eq (ws' := SW κ Sa g ++ []) ?_ rfl rfl rfl rfl
  have hn1 := hv.n1
  have hn2 := hv.n2
  refine z_iconst (v := nI 0) C dX4_clearSignals_0 (by decide) ?_
  refine z_istore_n C [(1, .int (nI 0)), (0, .ref (Sa 0))] dX4_clearSignals_1 (by decide) rfl ?_
  refine z_iconst (v := nI 0) C dX4_clearSignals_2 (by decide) ?_
  refine z_istore_n C [(2, .int (nI 0)), (1, .int (nI 0)), (0, .ref (Sa 0))] dX4_clearSignals_3 (by decide) rfl ?_
  refine z_lv [2, 1, 0] rfl ?_
  refine z_loop (σ := Nat × Nat) (fun x => SW κ Sa g ++ []) (fun x => [(0, .ref (Sa 0)), (1, .int (nI x.2)), (2, .int (nI x.1))]) (fun x => x.1 ≤ σ 1 ∧ x.2 = sumL (fun b => σ (5 + 6 * b + 4)) x.1 ∧ x.2 ≤ 1 * x.1) (fun x => σ 1 - x.1) ((0, 0)) (⟨Nat.zero_le _, rfl, Nat.zero_le _⟩) rfl rfl ?_
  rintro ⟨k, c0⟩ hI4 ih4
  dsimp only at hI4 ih4 ⊢
  obtain ⟨hi1, hi2, hi3⟩ := hI4
  have hx9 := fun q => hv.blk (c := k) q
  refine z_iload_n C dX4_clearSignals_4 2 rfl ?_
  refine z_aload_n C dX4_clearSignals_5 0 rfl ?_
  refine zs_get_blockCount C hin4 (x := σ 1) k53 dX4_clearSignals_6 hr.1.s1 ?_
  refine zn_icmp_ge C 30 dX4_clearSignals_9 (by decide) (by omega) (by omega) (fun h1 => ?_) (fun h2 => ?_)
  · refine z_iload_n C dX4_clearSignals_30 1 rfl ?_
    exact z_iret C hr9 hk (()) (congrArg (fun n => some (Value.int (nI n))) (show sumL (fun b => σ (5 + 6 * b + 4)) (σ 1) = c0 from by rw [hi2, show k = σ 1 from by omega])) (trivial) (List.Perm.of_eq rfl) dX4_clearSignals_31 (Nat.le_refl _) (Nat.le_refl _)
  · have hy9 := hx9 (by omega)
    refine z_aload_n C dX4_clearSignals_12 0 rfl ?_
    refine zs_get_clear C hin4 k21 dX4_clearSignals_13 ?_
    refine z_iload_n C dX4_clearSignals_16 2 rfl ?_
    refine zs_ald_clear C (x := σ (5 + 6 * k + 4)) (by omega) (hr.1.b8 (by omega)) dX4_clearSignals_17 ?_
    refine zn_if_eq C 24 dX4_clearSignals_18 (by decide) (by omega) (fun h3 => ?_) (fun h4 => ?_)
    · refine zn_iinc (n := 1) C [(2, .int (nI (k + 1))), (0, .ref (Sa 0)), (1, .int (nI c0))] dX4_clearSignals_24 2 rfl (by decide) rfl ?_
      refine z_goto (tgt := 4) C dX4_clearSignals_27 (by decide) ?_
      refine z_lv [1, 2, 0] rfl ?_
      exact ih4 (k + 1, c0) ⟨by dsimp only; omega, by dsimp only; rw [show sumL (fun b => σ (5 + 6 * b + 4)) (k + 1) = sumL (fun b => σ (5 + 6 * b + 4)) k + (fun b => σ (5 + 6 * b + 4)) k from rfl]; dsimp only; omega, by dsimp only; omega⟩ (by dsimp only; omega)
    · refine zn_iinc (n := 1) C [(1, .int (nI (c0 + 1))), (0, .ref (Sa 0)), (2, .int (nI k))] dX4_clearSignals_21 1 rfl (by decide) rfl ?_
      refine zn_iinc (n := 1) C [(2, .int (nI (k + 1))), (1, .int (nI (c0 + 1))), (0, .ref (Sa 0))] dX4_clearSignals_24 2 rfl (by decide) rfl ?_
      refine z_goto (tgt := 4) C dX4_clearSignals_27 (by decide) ?_
      refine z_lv [2, 1, 0] rfl ?_
      exact ih4 (k + 1, c0 + 1) ⟨by dsimp only; omega, by dsimp only; rw [show sumL (fun b => σ (5 + 6 * b + 4)) (k + 1) = sumL (fun b => σ (5 + 6 * b + 4)) k + (fun b => σ (5 + 6 * b + 4)) k from rfl]; dsimp only; omega, by dsimp only; omega⟩ (by dsimp only; omega)
theorem hdX4_clearSignals : yX4_clearSignals.cls = RX4 ∧ yX4_clearSignals.cls ≠ "java/lang/invoke/MethodHandle" ∧ yX4_clearSignals.cls ≠ "java/lang/invoke/VarHandle" ∧ (parseMethodDescriptor yX4_clearSignals.desc).map (fun d => d.parameters.length) = some 0 := by decide +kernel
set_option maxRecDepth 100000 in
set_option maxHeartbeats 4000000 in
theorem mX4_sumOfWagons (l : Launch) (D : va_G) (κ : Nat → ClassId) (Sa : Nat → Nat) (g : Nat → Nat → Nat) (σ : Nat → Nat) (M : Nat)  (hr : Rep g σ) (hv : Inv M σ) : cM l yX4_sumOfWagons wsX4_sumOfWagons { frames := 0, cells := 0, slots := 0, locals := 0 } D κ Sa [] g (some (.int (nI (sumL (fun t => σ (65 + 5 * t + 0)) (σ 2))))) g := by
  refine zM_of (cc := cX4_sumOfWagons) (maxL := 3) (rt := (some .int)) [(0, .ref (Sa 0))] (by decide +kernel) rfl (Nat.le_of_ble_eq_true rfl) rfl ?_
  intro p e s m args below meth c A C hr9 hk hnm
  have C : zC p s m args c cX4_sumOfWagons 3 wsX4_sumOfWagons RX4 D (zTy κ) A := C
  have hin4 : ∀ w ∈ wsX40, w ∈ wsX4_sumOfWagons := fun w h => List.mem_cons_of_mem _ (List.mem_append_right _ h)
  have k56 : Cond.fieldLink RX4 56 "PeatRailway$State" "trainCount" "I" ∈ wsX4_sumOfWagons := by decide +kernel
  have k37 : Cond.fieldLink RX4 37 "PeatRailway$State" "wagons" "[I" ∈ wsX4_sumOfWagons := by decide +kernel
  refine z_eq (ws' := SW κ Sa g ++ []) ?_ rfl rfl rfl rfl
  have hn1 := hv.n1
  have hn2 := hv.n2
  refine z_iconst (v := nI 0) C dX4_sumOfWagons_0 (by decide) ?_
  refine z_istore_n C [(1, .int (nI 0)), (0, .ref (Sa 0))] dX4_sumOfWagons_1 (by decide) rfl ?_
  refine z_iconst (v := nI 0) C dX4_sumOfWagons_2 (by decide) ?_
  refine z_istore_n C [(2, .int (nI 0)), (1, .int (nI 0)), (0, .ref (Sa 0))] dX4_sumOfWagons_3 (by decide) rfl ?_
  refine z_lv [2, 1, 0] rfl ?_
  refine z_loop (σ := Nat × Nat) (fun x => SW κ Sa g ++ []) (fun x => [(0, .ref (Sa 0)), (1, .int (nI x.2)), (2, .int (nI x.1))]) (fun x => x.1 ≤ σ 2 ∧ x.2 = sumL (fun t => σ (65 + 5 * t + 0)) x.1 ∧ x.2 ≤ 12 * x.1) (fun x => σ 2 - x.1) ((0, 0)) (⟨Nat.zero_le _, rfl, Nat.zero_le _⟩) rfl rfl ?_
  rintro ⟨k, c0⟩ hI4 ih4
  dsimp only at hI4 ih4 ⊢
  obtain ⟨hi1, hi2, hi3⟩ := hI4
  have hx9 := fun q => hv.trn (t := k) q
  refine z_iload_n C dX4_sumOfWagons_4 2 rfl ?_
  refine z_aload_n C dX4_sumOfWagons_5 0 rfl ?_
  refine zs_get_trainCount C hin4 (x := σ 2) k56 dX4_sumOfWagons_6 hr.1.s2 ?_
  refine zn_icmp_ge C 27 dX4_sumOfWagons_9 (by decide) (by omega) (by omega) (fun h1 => ?_) (fun h2 => ?_)
  · refine z_iload_n C dX4_sumOfWagons_27 1 rfl ?_
    exact z_iret C hr9 hk (()) (congrArg (fun n => some (Value.int (nI n))) (show sumL (fun t => σ (65 + 5 * t + 0)) (σ 2) = c0 from by rw [hi2, show k = σ 2 from by omega])) (trivial) (List.Perm.of_eq rfl) dX4_sumOfWagons_28 (Nat.le_refl _) (Nat.le_refl _)
  · have hy9 := hx9 (by omega)
    refine z_iload_n C dX4_sumOfWagons_12 1 rfl ?_
    refine z_aload_n C dX4_sumOfWagons_13 0 rfl ?_
    refine zs_get_wagons C hin4 k37 dX4_sumOfWagons_14 ?_
    refine z_iload_n C dX4_sumOfWagons_17 2 rfl ?_
    refine zs_ald_wagons C (x := σ (65 + 5 * k + 0)) (by omega) (hr.1.t13 (by omega)) dX4_sumOfWagons_18 ?_
    refine zn_iadd C dX4_sumOfWagons_19 ?_
    refine z_istore_n C [(1, .int (nI (c0 + (σ (65 + 5 * k + 0))))), (0, .ref (Sa 0)), (2, .int (nI k))] dX4_sumOfWagons_20 (by decide) rfl ?_
    refine zn_iinc (n := 1) C [(2, .int (nI (k + 1))), (1, .int (nI (c0 + (σ (65 + 5 * k + 0))))), (0, .ref (Sa 0))] dX4_sumOfWagons_21 2 rfl (by decide) rfl ?_
    refine z_goto (tgt := 4) C dX4_sumOfWagons_24 (by decide) ?_
    refine z_lv [2, 1, 0] rfl ?_
    exact ih4 (k + 1, c0 + (σ (65 + 5 * k + 0))) ⟨by dsimp only; omega, by dsimp only; rw [show sumL (fun t => σ (65 + 5 * t + 0)) (k + 1) = sumL (fun t => σ (65 + 5 * t + 0)) k + (fun t => σ (65 + 5 * t + 0)) k from rfl]; dsimp only; omega, by dsimp only; omega⟩ (by dsimp only; omega)
theorem hdX4_sumOfWagons : yX4_sumOfWagons.cls = RX4 ∧ yX4_sumOfWagons.cls ≠ "java/lang/invoke/MethodHandle" ∧ yX4_sumOfWagons.cls ≠ "java/lang/invoke/VarHandle" ∧ (parseMethodDescriptor yX4_sumOfWagons.desc).map (fun d => d.parameters.length) = some 0 := by decide +kernel
set_option maxRecDepth 100000 in
set_option maxHeartbeats 4000000 in
theorem mX4_sumOfLost (l : Launch) (D : va_G) (κ : Nat → ClassId) (Sa : Nat → Nat) (g : Nat → Nat → Nat) (σ : Nat → Nat) (M : Nat)  (hr : Rep g σ) (hv : Inv M σ) : cM l yX4_sumOfLost wsX4_sumOfLost { frames := 0, cells := 0, slots := 0, locals := 0 } D κ Sa [] g (some (.int (nI (sumL (fun b => σ (5 + 6 * b + 5)) (σ 1))))) g := by
  refine zM_of (cc := cX4_sumOfLost) (maxL := 3) (rt := (some .int)) [(0, .ref (Sa 0))] (by decide +kernel) rfl (Nat.le_of_ble_eq_true rfl) rfl ?_
  intro p e s m args below meth c A C hr9 hk hnm
  have C : zC p s m args c cX4_sumOfLost 3 wsX4_sumOfLost RX4 D (zTy κ) A := C
  have hin4 : ∀ w ∈ wsX40, w ∈ wsX4_sumOfLost := fun w h => List.mem_cons_of_mem _ (List.mem_append_right _ h)
  have k53 : Cond.fieldLink RX4 53 "PeatRailway$State" "blockCount" "I" ∈ wsX4_sumOfLost := by decide +kernel
  have k25 : Cond.fieldLink RX4 25 "PeatRailway$State" "lost" "[I" ∈ wsX4_sumOfLost := by decide +kernel
  refine z_eq (ws' := SW κ Sa g ++ []) ?_ rfl rfl rfl rfl
  have hn1 := hv.n1
  have hn2 := hv.n2
  refine z_iconst (v := nI 0) C dX4_sumOfLost_0 (by decide) ?_
  refine z_istore_n C [(1, .int (nI 0)), (0, .ref (Sa 0))] dX4_sumOfLost_1 (by decide) rfl ?_
  refine z_iconst (v := nI 0) C dX4_sumOfLost_2 (by decide) ?_
  refine z_istore_n C [(2, .int (nI 0)), (1, .int (nI 0)), (0, .ref (Sa 0))] dX4_sumOfLost_3 (by decide) rfl ?_
  refine z_lv [2, 1, 0] rfl ?_
  refine z_loop (σ := Nat × Nat) (fun x => SW κ Sa g ++ []) (fun x => [(0, .ref (Sa 0)), (1, .int (nI x.2)), (2, .int (nI x.1))]) (fun x => x.1 ≤ σ 1 ∧ x.2 = sumL (fun b => σ (5 + 6 * b + 5)) x.1 ∧ x.2 ≤ 1 * x.1) (fun x => σ 1 - x.1) ((0, 0)) (⟨Nat.zero_le _, rfl, Nat.zero_le _⟩) rfl rfl ?_
  rintro ⟨k, c0⟩ hI4 ih4
  dsimp only at hI4 ih4 ⊢
  obtain ⟨hi1, hi2, hi3⟩ := hI4
  have hx9 := fun q => hv.blk (c := k) q
  refine z_iload_n C dX4_sumOfLost_4 2 rfl ?_
  refine z_aload_n C dX4_sumOfLost_5 0 rfl ?_
  refine zs_get_blockCount C hin4 (x := σ 1) k53 dX4_sumOfLost_6 hr.1.s1 ?_
  refine zn_icmp_ge C 27 dX4_sumOfLost_9 (by decide) (by omega) (by omega) (fun h1 => ?_) (fun h2 => ?_)
  · refine z_iload_n C dX4_sumOfLost_27 1 rfl ?_
    exact z_iret C hr9 hk (()) (congrArg (fun n => some (Value.int (nI n))) (show sumL (fun b => σ (5 + 6 * b + 5)) (σ 1) = c0 from by rw [hi2, show k = σ 1 from by omega])) (trivial) (List.Perm.of_eq rfl) dX4_sumOfLost_28 (Nat.le_refl _) (Nat.le_refl _)
  · have hy9 := hx9 (by omega)
    refine z_iload_n C dX4_sumOfLost_12 1 rfl ?_
    refine z_aload_n C dX4_sumOfLost_13 0 rfl ?_
    refine zs_get_lost C hin4 k25 dX4_sumOfLost_14 ?_
    refine z_iload_n C dX4_sumOfLost_17 2 rfl ?_
    refine zs_ald_lost C (x := σ (5 + 6 * k + 5)) (by omega) (hr.1.b9 (by omega)) dX4_sumOfLost_18 ?_
    refine zn_iadd C dX4_sumOfLost_19 ?_
    refine z_istore_n C [(1, .int (nI (c0 + (σ (5 + 6 * k + 5))))), (0, .ref (Sa 0)), (2, .int (nI k))] dX4_sumOfLost_20 (by decide) rfl ?_
    refine zn_iinc (n := 1) C [(2, .int (nI (k + 1))), (1, .int (nI (c0 + (σ (5 + 6 * k + 5))))), (0, .ref (Sa 0))] dX4_sumOfLost_21 2 rfl (by decide) rfl ?_
    refine z_goto (tgt := 4) C dX4_sumOfLost_24 (by decide) ?_
    refine z_lv [2, 1, 0] rfl ?_
    exact ih4 (k + 1, c0 + (σ (5 + 6 * k + 5))) ⟨by dsimp only; omega, by dsimp only; rw [show sumL (fun b => σ (5 + 6 * b + 5)) (k + 1) = sumL (fun b => σ (5 + 6 * b + 5)) k + (fun b => σ (5 + 6 * b + 5)) k from rfl]; dsimp only; omega, by dsimp only; omega⟩ (by dsimp only; omega)
theorem hdX4_sumOfLost : yX4_sumOfLost.cls = RX4 ∧ yX4_sumOfLost.cls ≠ "java/lang/invoke/MethodHandle" ∧ yX4_sumOfLost.cls ≠ "java/lang/invoke/VarHandle" ∧ (parseMethodDescriptor yX4_sumOfLost.desc).map (fun d => d.parameters.length) = some 0 := by decide +kernel
end S1
