section X1
/-- the class's object -/
abbrev RC (ra c f h a b p o : Nat) : va_W := [(ra, .inr (5, [.ref c, .ref f, .ref h, .ref a, .ref b, .ref p, .ref o]))]
theorem tn_n : ∀ n ∈ ["java/lang/RuntimeException", "java/lang/Exception"], Bundle.fit n = true := by decide +kernel
theorem tf_IB : Bundle.fit eIB = true := by decide +kernel
theorem tb_IB : ∀ w ∈ (vx_atS RX5 94 eIB ["java/lang/RuntimeException", "java/lang/Exception"]).filter (fun w => !goodWord w), w ∈ Cond.castable eIB eIB :: nDw := by decide +kernel
theorem tc_IB : (eIB, eIB) ∈ nCs := by simp [nCs]
theorem tg_IB : ∀ w ∈ Cond.classLink RX5 90 eIB :: Cond.initialized eIB :: vx_atS RX5 94 eIB ["java/lang/RuntimeException", "java/lang/Exception"], vx_ot w = true := by decide +kernel
theorem tf_IS : Bundle.fit eIS = true := by decide +kernel
theorem tb_IS : ∀ w ∈ (vx_atS RX5 80 eIS ["java/lang/RuntimeException", "java/lang/Exception"]).filter (fun w => !goodWord w), w ∈ Cond.castable eIS eIS :: nDw := by decide +kernel
theorem tc_IS : (eIS, eIS) ∈ nCs := by simp [nCs]
theorem tg_IS : ∀ w ∈ Cond.classLink RX5 76 eIS :: Cond.initialized eIS :: vx_atS RX5 80 eIS ["java/lang/RuntimeException", "java/lang/Exception"], vx_ot w = true := by decide +kernel
theorem tf_IA : Bundle.fit eIA = true := by decide +kernel
theorem tb_IA : ∀ w ∈ (vx_atS RX5 99 eIA ["java/lang/RuntimeException", "java/lang/Exception"]).filter (fun w => !goodWord w), w ∈ Cond.castable eIA eIA :: nDw := by decide +kernel
theorem tc_IA : (eIA, eIA) ∈ nCs := by simp [nCs]
theorem tg_IA : ∀ w ∈ Cond.classLink RX5 95 eIA :: Cond.initialized eIA :: vx_atS RX5 99 eIA ["java/lang/RuntimeException", "java/lang/Exception"], vx_ot w = true := by decide +kernel
theorem isB_no {n : Nat} {x : Int32} (hn : n ≤ 1000) (h : isB n x = false) (h0 : ¬ x < 0) : ¬ x < nI n := by
  intro q
  obtain ⟨k, hk, rfl⟩ := nI_of (x := x) h0
  have h9 := (zq_lt hk (by omega)).mp q
  rw [isB_k hn h9] at h
  cases h
theorem b01 {x : Nat} (h : x ≤ 1) : x = (decide (x = 1)).toNat := by
  rcases (show x = 0 ∨ x = 1 by omega) with rfl | rfl <;> rfl
theorem zn_nar1 {x : Nat} (h : x ≤ 1) : narrow .boolean (.int (nI x)) = .int (nI x) := by
  rcases (show x = 0 ∨ x = 1 by omega) with rfl | rfl <;> rfl
set_option maxRecDepth 100000 in
set_option maxHeartbeats 4000000 in
theorem mX5_requireBlock_ok (l : Launch) (D : va_G) (κ : Nat → ClassId) (Sa : Nat → Nat) (g : Nat → Nat → Nat) (ra f9 h9 a9 b9 p9 o9 : Nat) (σ : Nat → Nat) (M : Nat) (b : Nat) (hr : Rep g σ) (hv : Inv M σ) (hb : b < σ 1) : zM l yX5_requireBlock wsX5_requireBlock { frames := 0, cells := 0, slots := 0, locals := 0 } D (zTy κ) [.ref ra, .int (nI b)] (SW κ Sa g ++ (RC ra (Sa 0) f9 h9 a9 b9 p9 o9)) (S := Unit) (fun _ => none) (fun _ => True) (fun _ => SW κ Sa g ++ (RC ra (Sa 0) f9 h9 a9 b9 p9 o9)) 0 0 := by
  refine zM_of (cc := cX5_requireBlock) (maxL := 2) (rt := none) [(0, .ref (ra)), (1, .int (nI b))] (by decide +kernel) rfl (Nat.le_of_ble_eq_true rfl) rfl ?_
  intro p e s m args below meth c A C hr9 hk hnm
  have C : zC p s m args c cX5_requireBlock 2 wsX5_requireBlock RX5 D (zTy κ) A := C
  have hin5 : ∀ w ∈ wsX50, w ∈ wsX5_requireBlock := fun w h => List.mem_cons_of_mem _ (List.mem_append_left _ (List.mem_append_left _ (List.mem_append_right _ h)))
  have hin4 : ∀ w ∈ wsX40, w ∈ wsX5_requireBlock := fun w h => List.mem_cons_of_mem _ (List.mem_append_left _ (List.mem_append_right _ h))
  have k10 : Cond.fieldLink RX5 10 "PeatRailway" "current" "LPeatRailway$State;" ∈ wsX5_requireBlock := by decide +kernel
  have k107 : Cond.fieldLink RX5 107 "PeatRailway$State" "blockCount" "I" ∈ wsX5_requireBlock := by decide +kernel
  refine z_eq (ws' := SW κ Sa g ++ (RC ra (Sa 0) f9 h9 a9 b9 p9 o9 ++ [])) ?_ rfl rfl rfl rfl
  have hn1 := hv.n1
  have hn2 := hv.n2
  refine z_iload_n C dX5_requireBlock_0 1 rfl ?_
  refine zn_if_lt C 15 dX5_requireBlock_1 (by decide) (by omega) ?_
  refine z_iload_n C dX5_requireBlock_4 1 rfl ?_
  refine z_aload_n C dX5_requireBlock_5 0 rfl ?_
  refine z_get C hin5 13 rfl rfl 0 (by decide) k10 rfl dX5_requireBlock_6 ?_
  refine zs_get_blockCount C hin4 (x := σ 1) k107 dX5_requireBlock_9 hr.1.s1 ?_
  refine zn_icmp_lt C 26 dX5_requireBlock_12 (by decide) (by omega) (by omega) (fun h1 => ?_) (fun h2 => ?_)
  · exact z_vret C hr9 hk (()) (rfl) (trivial) (List.Perm.of_eq rfl) dX5_requireBlock_26 (Nat.le_refl _) (Nat.le_refl _)
  · exfalso; omega
theorem hdX5_requireBlock : yX5_requireBlock.cls = RX5 ∧ yX5_requireBlock.cls ≠ "java/lang/invoke/MethodHandle" ∧ yX5_requireBlock.cls ≠ "java/lang/invoke/VarHandle" ∧ (parseMethodDescriptor yX5_requireBlock.desc).map (fun d => d.parameters.length) = some 1 := by decide +kernel
set_option maxRecDepth 100000 in
set_option maxHeartbeats 4000000 in
theorem mX5_requireBlock_no (l : Launch) (D : va_G) (κ : Nat → ClassId) (adK adV : Nat → Nat) (Sa : Nat → Nat) (g : Nat → Nat → Nat) (ra f9 h9 a9 b9 p9 o9 : Nat) (σ : Nat → Nat) (M : Nat) (x : Int32) (hls : l.stackTraces = false) (hr : Rep g σ) (hv : Inv M σ) (hx : isB (σ 1) x = false) : zX (aX adK adV) l yX5_requireBlock wsX5_requireBlock { frames := 6, cells := 1, slots := 6, locals := 82 } D (zTy κ) [.ref (ra), .int (x)] (SW κ Sa g ++ (RC ra (Sa 0) f9 h9 a9 b9 p9 o9)) eIB (S := Unit) (fun _ => True) (fun _ => SW κ Sa g ++ (RC ra (Sa 0) f9 h9 a9 b9 p9 o9)) 1 6 := by
  refine zX_of (cc := cX5_requireBlock) (maxL := 2) (rt := none) [(0, .ref (ra)), (1, .int (x))] (by decide +kernel) rfl (Nat.le_of_ble_eq_true rfl) rfl ?_
  intro p e s m args below meth c A C hk htab hX
  have C : zC p s m args c cX5_requireBlock 2 wsX5_requireBlock RX5 D (zTy κ) A := C
  have hin5 : ∀ w ∈ wsX50, w ∈ wsX5_requireBlock := fun w h => List.mem_cons_of_mem _ (List.mem_append_left _ (List.mem_append_left _ (List.mem_append_right _ h)))
  have hin4 : ∀ w ∈ wsX40, w ∈ wsX5_requireBlock := fun w h => List.mem_cons_of_mem _ (List.mem_append_left _ (List.mem_append_right _ h))
  have k10 : Cond.fieldLink RX5 10 "PeatRailway" "current" "LPeatRailway$State;" ∈ wsX5_requireBlock := by decide +kernel
  have k107 : Cond.fieldLink RX5 107 "PeatRailway$State" "blockCount" "I" ∈ wsX5_requireBlock := by decide +kernel
  refine z_eq (ws' := SW κ Sa g ++ (RC ra (Sa 0) f9 h9 a9 b9 p9 o9 ++ [])) ?_ rfl rfl rfl rfl
  have hn1 := hv.n1
  have hn2 := hv.n2
  refine z_iload_n C dX5_requireBlock_0 1 rfl ?_
  refine z_if_lt C 15 dX5_requireBlock_1 (by decide) (fun h1 => ?_) (fun h2 => ?_)
  · exact zx_throwW C htab hk hls hX (E0 := eIB) (names := ["java/lang/RuntimeException", "java/lang/Exception"]) tf_IB tn_n (show Cond.classLink RX5 90 eIB ∈ wsX5_requireBlock from by decide +kernel) (show Cond.initialized eIB ∈ wsX5_requireBlock from by decide +kernel) (fun w h => List.mem_cons_of_mem _ (List.mem_append_right _ h)) tb_IB tc_IB tg_IB 12 (by decide) rfl rfl dX5_requireBlock_15 dX5_requireBlock_18 dX5_requireBlock_19 dX5_requireBlock_22 dX5_requireBlock_25 (Nat.le_of_ble_eq_true rfl) (Nat.le_of_ble_eq_true rfl) (Nat.le_of_ble_eq_true rfl) (Nat.le_of_ble_eq_true rfl) (Nat.le_of_ble_eq_true rfl) (Nat.le_of_ble_eq_true rfl) (()) (trivial) (List.Perm.of_eq rfl)
  · refine z_iload_n C dX5_requireBlock_4 1 rfl ?_
    refine z_aload_n C dX5_requireBlock_5 0 rfl ?_
    refine z_get C hin5 13 rfl rfl 0 (by decide) k10 rfl dX5_requireBlock_6 ?_
    refine zs_get_blockCount C hin4 (x := σ 1) k107 dX5_requireBlock_9 hr.1.s1 ?_
    refine z_icmp_lt C 26 dX5_requireBlock_12 (by decide) (fun q => absurd q (isB_no (by omega) hx h2)) (fun _ => ?_)
    exact zx_throwW C htab hk hls hX (E0 := eIB) (names := ["java/lang/RuntimeException", "java/lang/Exception"]) tf_IB tn_n (show Cond.classLink RX5 90 eIB ∈ wsX5_requireBlock from by decide +kernel) (show Cond.initialized eIB ∈ wsX5_requireBlock from by decide +kernel) (fun w h => List.mem_cons_of_mem _ (List.mem_append_right _ h)) tb_IB tc_IB tg_IB 12 (by decide) rfl rfl dX5_requireBlock_15 dX5_requireBlock_18 dX5_requireBlock_19 dX5_requireBlock_22 dX5_requireBlock_25 (Nat.le_of_ble_eq_true rfl) (Nat.le_of_ble_eq_true rfl) (Nat.le_of_ble_eq_true rfl) (Nat.le_of_ble_eq_true rfl) (Nat.le_of_ble_eq_true rfl) (Nat.le_of_ble_eq_true rfl) (()) (trivial) (List.Perm.of_eq rfl)
set_option maxRecDepth 100000 in
set_option maxHeartbeats 4000000 in
theorem mX5_requireTrain_ok (l : Launch) (D : va_G) (κ : Nat → ClassId) (Sa : Nat → Nat) (g : Nat → Nat → Nat) (ra f9 h9 a9 b9 p9 o9 : Nat) (σ : Nat → Nat) (M : Nat) (b : Nat) (hr : Rep g σ) (hv : Inv M σ) (hb : b < σ 2) : zM l yX5_requireTrain wsX5_requireTrain { frames := 0, cells := 0, slots := 0, locals := 0 } D (zTy κ) [.ref ra, .int (nI b)] (SW κ Sa g ++ (RC ra (Sa 0) f9 h9 a9 b9 p9 o9)) (S := Unit) (fun _ => none) (fun _ => True) (fun _ => SW κ Sa g ++ (RC ra (Sa 0) f9 h9 a9 b9 p9 o9)) 0 0 := by
  refine zM_of (cc := cX5_requireTrain) (maxL := 2) (rt := none) [(0, .ref (ra)), (1, .int (nI b))] (by decide +kernel) rfl (Nat.le_of_ble_eq_true rfl) rfl ?_
  intro p e s m args below meth c A C hr9 hk hnm
  have C : zC p s m args c cX5_requireTrain 2 wsX5_requireTrain RX5 D (zTy κ) A := C
  have hin5 : ∀ w ∈ wsX50, w ∈ wsX5_requireTrain := fun w h => List.mem_cons_of_mem _ (List.mem_append_left _ (List.mem_append_left _ (List.mem_append_right _ h)))
  have hin4 : ∀ w ∈ wsX40, w ∈ wsX5_requireTrain := fun w h => List.mem_cons_of_mem _ (List.mem_append_left _ (List.mem_append_right _ h))
  have k10 : Cond.fieldLink RX5 10 "PeatRailway" "current" "LPeatRailway$State;" ∈ wsX5_requireTrain := by decide +kernel
  have k145 : Cond.fieldLink RX5 145 "PeatRailway$State" "trainCount" "I" ∈ wsX5_requireTrain := by decide +kernel
  refine z_eq (ws' := SW κ Sa g ++ (RC ra (Sa 0) f9 h9 a9 b9 p9 o9 ++ [])) ?_ rfl rfl rfl rfl
  have hn1 := hv.n1
  have hn2 := hv.n2
  refine z_iload_n C dX5_requireTrain_0 1 rfl ?_
  refine zn_if_lt C 15 dX5_requireTrain_1 (by decide) (by omega) ?_
  refine z_iload_n C dX5_requireTrain_4 1 rfl ?_
  refine z_aload_n C dX5_requireTrain_5 0 rfl ?_
  refine z_get C hin5 13 rfl rfl 0 (by decide) k10 rfl dX5_requireTrain_6 ?_
  refine zs_get_trainCount C hin4 (x := σ 2) k145 dX5_requireTrain_9 hr.1.s2 ?_
  refine zn_icmp_lt C 26 dX5_requireTrain_12 (by decide) (by omega) (by omega) (fun h1 => ?_) (fun h2 => ?_)
  · exact z_vret C hr9 hk (()) (rfl) (trivial) (List.Perm.of_eq rfl) dX5_requireTrain_26 (Nat.le_refl _) (Nat.le_refl _)
  · exfalso; omega
theorem hdX5_requireTrain : yX5_requireTrain.cls = RX5 ∧ yX5_requireTrain.cls ≠ "java/lang/invoke/MethodHandle" ∧ yX5_requireTrain.cls ≠ "java/lang/invoke/VarHandle" ∧ (parseMethodDescriptor yX5_requireTrain.desc).map (fun d => d.parameters.length) = some 1 := by decide +kernel
set_option maxRecDepth 100000 in
set_option maxHeartbeats 4000000 in
theorem mX5_requireTrain_no (l : Launch) (D : va_G) (κ : Nat → ClassId) (adK adV : Nat → Nat) (Sa : Nat → Nat) (g : Nat → Nat → Nat) (ra f9 h9 a9 b9 p9 o9 : Nat) (σ : Nat → Nat) (M : Nat) (x : Int32) (hls : l.stackTraces = false) (hr : Rep g σ) (hv : Inv M σ) (hx : isB (σ 2) x = false) : zX (aX adK adV) l yX5_requireTrain wsX5_requireTrain { frames := 6, cells := 1, slots := 6, locals := 82 } D (zTy κ) [.ref (ra), .int (x)] (SW κ Sa g ++ (RC ra (Sa 0) f9 h9 a9 b9 p9 o9)) eIB (S := Unit) (fun _ => True) (fun _ => SW κ Sa g ++ (RC ra (Sa 0) f9 h9 a9 b9 p9 o9)) 1 6 := by
  refine zX_of (cc := cX5_requireTrain) (maxL := 2) (rt := none) [(0, .ref (ra)), (1, .int (x))] (by decide +kernel) rfl (Nat.le_of_ble_eq_true rfl) rfl ?_
  intro p e s m args below meth c A C hk htab hX
  have C : zC p s m args c cX5_requireTrain 2 wsX5_requireTrain RX5 D (zTy κ) A := C
  have hin5 : ∀ w ∈ wsX50, w ∈ wsX5_requireTrain := fun w h => List.mem_cons_of_mem _ (List.mem_append_left _ (List.mem_append_left _ (List.mem_append_right _ h)))
  have hin4 : ∀ w ∈ wsX40, w ∈ wsX5_requireTrain := fun w h => List.mem_cons_of_mem _ (List.mem_append_left _ (List.mem_append_right _ h))
  have k10 : Cond.fieldLink RX5 10 "PeatRailway" "current" "LPeatRailway$State;" ∈ wsX5_requireTrain := by decide +kernel
  have k145 : Cond.fieldLink RX5 145 "PeatRailway$State" "trainCount" "I" ∈ wsX5_requireTrain := by decide +kernel
  refine z_eq (ws' := SW κ Sa g ++ (RC ra (Sa 0) f9 h9 a9 b9 p9 o9 ++ [])) ?_ rfl rfl rfl rfl
  have hn1 := hv.n1
  have hn2 := hv.n2
  refine z_iload_n C dX5_requireTrain_0 1 rfl ?_
  refine z_if_lt C 15 dX5_requireTrain_1 (by decide) (fun h1 => ?_) (fun h2 => ?_)
  · exact zx_throwW C htab hk hls hX (E0 := eIB) (names := ["java/lang/RuntimeException", "java/lang/Exception"]) tf_IB tn_n (show Cond.classLink RX5 90 eIB ∈ wsX5_requireTrain from by decide +kernel) (show Cond.initialized eIB ∈ wsX5_requireTrain from by decide +kernel) (fun w h => List.mem_cons_of_mem _ (List.mem_append_right _ h)) tb_IB tc_IB tg_IB 13 (by decide) rfl rfl dX5_requireTrain_15 dX5_requireTrain_18 dX5_requireTrain_19 dX5_requireTrain_22 dX5_requireTrain_25 (Nat.le_of_ble_eq_true rfl) (Nat.le_of_ble_eq_true rfl) (Nat.le_of_ble_eq_true rfl) (Nat.le_of_ble_eq_true rfl) (Nat.le_of_ble_eq_true rfl) (Nat.le_of_ble_eq_true rfl) (()) (trivial) (List.Perm.of_eq rfl)
  · refine z_iload_n C dX5_requireTrain_4 1 rfl ?_
    refine z_aload_n C dX5_requireTrain_5 0 rfl ?_
    refine z_get C hin5 13 rfl rfl 0 (by decide) k10 rfl dX5_requireTrain_6 ?_
    refine zs_get_trainCount C hin4 (x := σ 2) k145 dX5_requireTrain_9 hr.1.s2 ?_
    refine z_icmp_lt C 26 dX5_requireTrain_12 (by decide) (fun q => absurd q (isB_no (by omega) hx h2)) (fun _ => ?_)
    exact zx_throwW C htab hk hls hX (E0 := eIB) (names := ["java/lang/RuntimeException", "java/lang/Exception"]) tf_IB tn_n (show Cond.classLink RX5 90 eIB ∈ wsX5_requireTrain from by decide +kernel) (show Cond.initialized eIB ∈ wsX5_requireTrain from by decide +kernel) (fun w h => List.mem_cons_of_mem _ (List.mem_append_right _ h)) tb_IB tc_IB tg_IB 13 (by decide) rfl rfl dX5_requireTrain_15 dX5_requireTrain_18 dX5_requireTrain_19 dX5_requireTrain_22 dX5_requireTrain_25 (Nat.le_of_ble_eq_true rfl) (Nat.le_of_ble_eq_true rfl) (Nat.le_of_ble_eq_true rfl) (Nat.le_of_ble_eq_true rfl) (Nat.le_of_ble_eq_true rfl) (Nat.le_of_ble_eq_true rfl) (()) (trivial) (List.Perm.of_eq rfl)
set_option maxRecDepth 100000 in
set_option maxHeartbeats 4000000 in
theorem mX5_lengthOf_ok (l : Launch) (D : va_G) (κ : Nat → ClassId) (Sa : Nat → Nat) (g : Nat → Nat → Nat) (ra f9 h9 a9 b9 p9 o9 : Nat) (σ : Nat → Nat) (M : Nat) (b : Nat) (hr : Rep g σ) (hv : Inv M σ) (hb : b < σ 1) : zM l yX5_lengthOf wsX5_lengthOf { frames := 1, cells := 0, slots := 0, locals := 21 } D (zTy κ) [.ref ra, .int (nI b)] (SW κ Sa g ++ (RC ra (Sa 0) f9 h9 a9 b9 p9 o9)) (S := Unit) (fun _ => (some (.int (nI (σ (5 + 6 * b + 0)))))) (fun _ => True) (fun _ => SW κ Sa g ++ (RC ra (Sa 0) f9 h9 a9 b9 p9 o9)) 0 0 := by
  refine zM_of (cc := cX5_lengthOf) (maxL := 2) (rt := (some .int)) [(0, .ref (ra)), (1, .int (nI b))] (by decide +kernel) rfl (Nat.le_of_ble_eq_true rfl) rfl ?_
  intro p e s m args below meth c A C hr9 hk hnm
  have C : zC p s m args c cX5_lengthOf 2 wsX5_lengthOf RX5 D (zTy κ) A := C
  have hin5 : ∀ w ∈ wsX50, w ∈ wsX5_lengthOf := fun w h => List.mem_cons_of_mem _ (List.mem_append_left _ (List.mem_append_left _ (List.mem_append_right _ h)))
  have hin4 : ∀ w ∈ wsX40, w ∈ wsX5_lengthOf := fun w h => List.mem_cons_of_mem _ (List.mem_append_left _ (List.mem_append_right _ h))
  have k10 : Cond.fieldLink RX5 10 "PeatRailway" "current" "LPeatRailway$State;" ∈ wsX5_lengthOf := by decide +kernel
  have k122 : Cond.fieldLink RX5 122 "PeatRailway$State" "length" "[I" ∈ wsX5_lengthOf := by decide +kernel
  refine z_eq (ws' := SW κ Sa g ++ (RC ra (Sa 0) f9 h9 a9 b9 p9 o9 ++ [])) ?_ rfl rfl rfl rfl
  have hn1 := hv.n1
  have hn2 := hv.n2
  refine z_aload_n C dX5_lengthOf_0 0 rfl ?_
  refine z_iload_n C dX5_lengthOf_1 1 rfl ?_
  refine z_callV C (mX5_requireBlock_ok l D κ Sa _ ra f9 h9 a9 b9 p9 o9 σ M b hr hv (by omega)) gX5_lengthOf_X5_requireBlock rfl rfl rfl hdX5_requireBlock ⟨Nat.le_of_ble_eq_true rfl, Nat.le_of_ble_eq_true rfl⟩ 13 rfl rfl [] (fun _ => SW κ Sa g ++ (RC ra (Sa 0) f9 h9 a9 b9 p9 o9 ++ [])) (List.Perm.refl _) (fun _ => List.Perm.refl _) rfl (Nat.le_of_ble_eq_true rfl) dX5_lengthOf_2 ⟨Nat.zero_le _, Nat.zero_le _⟩ (fun _ _ => ?_)
  refine z_aload_n C dX5_lengthOf_5 0 rfl ?_
  refine z_get C hin5 13 rfl rfl 0 (by decide) k10 rfl dX5_lengthOf_6 ?_
  refine zs_get_length C hin4 k122 dX5_lengthOf_9 ?_
  refine z_iload_n C dX5_lengthOf_12 1 rfl ?_
  refine zs_ald_length C (x := σ (5 + 6 * b + 0)) (by omega) (hr.1.b5 (by omega)) dX5_lengthOf_13 ?_
  exact z_iret C hr9 hk (()) (rfl) (trivial) (List.Perm.of_eq rfl) dX5_lengthOf_14 (Nat.le_refl _) (Nat.le_refl _)
theorem hdX5_lengthOf : yX5_lengthOf.cls = RX5 ∧ yX5_lengthOf.cls ≠ "java/lang/invoke/MethodHandle" ∧ yX5_lengthOf.cls ≠ "java/lang/invoke/VarHandle" ∧ (parseMethodDescriptor yX5_lengthOf.desc).map (fun d => d.parameters.length) = some 1 := by decide +kernel
set_option maxRecDepth 100000 in
set_option maxHeartbeats 4000000 in
theorem mX5_lengthOf_no (l : Launch) (D : va_G) (κ : Nat → ClassId) (adK adV : Nat → Nat) (Sa : Nat → Nat) (g : Nat → Nat → Nat) (ra f9 h9 a9 b9 p9 o9 : Nat) (σ : Nat → Nat) (M : Nat) (x : Int32) (hls : l.stackTraces = false) (hr : Rep g σ) (hv : Inv M σ) (hx : isB (σ 1) x = false) : zX (aX adK adV) l yX5_lengthOf wsX5_lengthOf { frames := 7, cells := 1, slots := 6, locals := 103 } D (zTy κ) [.ref (ra), .int (x)] (SW κ Sa g ++ (RC ra (Sa 0) f9 h9 a9 b9 p9 o9)) eIB (S := Unit) (fun _ => True) (fun _ => SW κ Sa g ++ (RC ra (Sa 0) f9 h9 a9 b9 p9 o9)) 1 6 := by
  refine zX_of (cc := cX5_lengthOf) (maxL := 2) (rt := (some .int)) [(0, .ref (ra)), (1, .int (x))] (by decide +kernel) rfl (Nat.le_of_ble_eq_true rfl) rfl ?_
  intro p e s m args below meth c A C hk htab hX
  have C : zC p s m args c cX5_lengthOf 2 wsX5_lengthOf RX5 D (zTy κ) A := C
  have hin5 : ∀ w ∈ wsX50, w ∈ wsX5_lengthOf := fun w h => List.mem_cons_of_mem _ (List.mem_append_left _ (List.mem_append_left _ (List.mem_append_right _ h)))
  have hin4 : ∀ w ∈ wsX40, w ∈ wsX5_lengthOf := fun w h => List.mem_cons_of_mem _ (List.mem_append_left _ (List.mem_append_right _ h))
  have k10 : Cond.fieldLink RX5 10 "PeatRailway" "current" "LPeatRailway$State;" ∈ wsX5_lengthOf := by decide +kernel
  have k122 : Cond.fieldLink RX5 122 "PeatRailway$State" "length" "[I" ∈ wsX5_lengthOf := by decide +kernel
  refine z_eq (ws' := SW κ Sa g ++ (RC ra (Sa 0) f9 h9 a9 b9 p9 o9 ++ [])) ?_ rfl rfl rfl rfl
  have hn1 := hv.n1
  have hn2 := hv.n2
  refine z_aload_n C dX5_lengthOf_0 0 rfl ?_
  refine z_iload_n C dX5_lengthOf_1 1 rfl ?_
  exact zx_callV C htab hk (aX_ok adK adV) hX (mX5_requireBlock_no l D κ adK adV Sa _ ra f9 h9 a9 b9 p9 o9 σ M (x) hls hr hv hx) gX5_lengthOf_X5_requireBlock rfl rfl rfl hdX5_requireBlock ⟨(Nat.le_of_ble_eq_true rfl), (Nat.le_of_ble_eq_true rfl)⟩ 13 rfl rfl [] (List.Perm.refl _) rfl (Nat.le_of_ble_eq_true rfl) dX5_lengthOf_2 ⟨(Nat.le_of_ble_eq_true rfl), (Nat.le_of_ble_eq_true rfl)⟩ (Nat.le_of_ble_eq_true rfl) (Nat.le_of_ble_eq_true rfl) (fun u _ => ⟨(), trivial, List.Perm.of_eq rfl⟩)
set_option maxRecDepth 100000 in
set_option maxHeartbeats 4000000 in
theorem mX5_depthOf_ok (l : Launch) (D : va_G) (κ : Nat → ClassId) (Sa : Nat → Nat) (g : Nat → Nat → Nat) (ra f9 h9 a9 b9 p9 o9 : Nat) (σ : Nat → Nat) (M : Nat) (b : Nat) (hr : Rep g σ) (hv : Inv M σ) (hb : b < σ 1) : zM l yX5_depthOf wsX5_depthOf { frames := 1, cells := 0, slots := 0, locals := 21 } D (zTy κ) [.ref ra, .int (nI b)] (SW κ Sa g ++ (RC ra (Sa 0) f9 h9 a9 b9 p9 o9)) (S := Unit) (fun _ => (some (.int (nI (σ (5 + 6 * b + 1)))))) (fun _ => True) (fun _ => SW κ Sa g ++ (RC ra (Sa 0) f9 h9 a9 b9 p9 o9)) 0 0 := by
  refine zM_of (cc := cX5_depthOf) (maxL := 2) (rt := (some .int)) [(0, .ref (ra)), (1, .int (nI b))] (by decide +kernel) rfl (Nat.le_of_ble_eq_true rfl) rfl ?_
  intro p e s m args below meth c A C hr9 hk hnm
  have C : zC p s m args c cX5_depthOf 2 wsX5_depthOf RX5 D (zTy κ) A := C
  have hin5 : ∀ w ∈ wsX50, w ∈ wsX5_depthOf := fun w h => List.mem_cons_of_mem _ (List.mem_append_left _ (List.mem_append_left _ (List.mem_append_right _ h)))
  have hin4 : ∀ w ∈ wsX40, w ∈ wsX5_depthOf := fun w h => List.mem_cons_of_mem _ (List.mem_append_left _ (List.mem_append_right _ h))
  have k10 : Cond.fieldLink RX5 10 "PeatRailway" "current" "LPeatRailway$State;" ∈ wsX5_depthOf := by decide +kernel
  have k125 : Cond.fieldLink RX5 125 "PeatRailway$State" "depth" "[I" ∈ wsX5_depthOf := by decide +kernel
  refine z_eq (ws' := SW κ Sa g ++ (RC ra (Sa 0) f9 h9 a9 b9 p9 o9 ++ [])) ?_ rfl rfl rfl rfl
  have hn1 := hv.n1
  have hn2 := hv.n2
  refine z_aload_n C dX5_depthOf_0 0 rfl ?_
  refine z_iload_n C dX5_depthOf_1 1 rfl ?_
  refine z_callV C (mX5_requireBlock_ok l D κ Sa _ ra f9 h9 a9 b9 p9 o9 σ M b hr hv (by omega)) gX5_depthOf_X5_requireBlock rfl rfl rfl hdX5_requireBlock ⟨Nat.le_of_ble_eq_true rfl, Nat.le_of_ble_eq_true rfl⟩ 13 rfl rfl [] (fun _ => SW κ Sa g ++ (RC ra (Sa 0) f9 h9 a9 b9 p9 o9 ++ [])) (List.Perm.refl _) (fun _ => List.Perm.refl _) rfl (Nat.le_of_ble_eq_true rfl) dX5_depthOf_2 ⟨Nat.zero_le _, Nat.zero_le _⟩ (fun _ _ => ?_)
  refine z_aload_n C dX5_depthOf_5 0 rfl ?_
  refine z_get C hin5 13 rfl rfl 0 (by decide) k10 rfl dX5_depthOf_6 ?_
  refine zs_get_depth C hin4 k125 dX5_depthOf_9 ?_
  refine z_iload_n C dX5_depthOf_12 1 rfl ?_
  refine zs_ald_depth C (x := σ (5 + 6 * b + 1)) (by omega) (hr.1.b6 (by omega)) dX5_depthOf_13 ?_
  exact z_iret C hr9 hk (()) (rfl) (trivial) (List.Perm.of_eq rfl) dX5_depthOf_14 (Nat.le_refl _) (Nat.le_refl _)
theorem hdX5_depthOf : yX5_depthOf.cls = RX5 ∧ yX5_depthOf.cls ≠ "java/lang/invoke/MethodHandle" ∧ yX5_depthOf.cls ≠ "java/lang/invoke/VarHandle" ∧ (parseMethodDescriptor yX5_depthOf.desc).map (fun d => d.parameters.length) = some 1 := by decide +kernel
set_option maxRecDepth 100000 in
set_option maxHeartbeats 4000000 in
theorem mX5_depthOf_no (l : Launch) (D : va_G) (κ : Nat → ClassId) (adK adV : Nat → Nat) (Sa : Nat → Nat) (g : Nat → Nat → Nat) (ra f9 h9 a9 b9 p9 o9 : Nat) (σ : Nat → Nat) (M : Nat) (x : Int32) (hls : l.stackTraces = false) (hr : Rep g σ) (hv : Inv M σ) (hx : isB (σ 1) x = false) : zX (aX adK adV) l yX5_depthOf wsX5_depthOf { frames := 7, cells := 1, slots := 6, locals := 103 } D (zTy κ) [.ref (ra), .int (x)] (SW κ Sa g ++ (RC ra (Sa 0) f9 h9 a9 b9 p9 o9)) eIB (S := Unit) (fun _ => True) (fun _ => SW κ Sa g ++ (RC ra (Sa 0) f9 h9 a9 b9 p9 o9)) 1 6 := by
  refine zX_of (cc := cX5_depthOf) (maxL := 2) (rt := (some .int)) [(0, .ref (ra)), (1, .int (x))] (by decide +kernel) rfl (Nat.le_of_ble_eq_true rfl) rfl ?_
  intro p e s m args below meth c A C hk htab hX
  have C : zC p s m args c cX5_depthOf 2 wsX5_depthOf RX5 D (zTy κ) A := C
  have hin5 : ∀ w ∈ wsX50, w ∈ wsX5_depthOf := fun w h => List.mem_cons_of_mem _ (List.mem_append_left _ (List.mem_append_left _ (List.mem_append_right _ h)))
  have hin4 : ∀ w ∈ wsX40, w ∈ wsX5_depthOf := fun w h => List.mem_cons_of_mem _ (List.mem_append_left _ (List.mem_append_right _ h))
  have k10 : Cond.fieldLink RX5 10 "PeatRailway" "current" "LPeatRailway$State;" ∈ wsX5_depthOf := by decide +kernel
  have k125 : Cond.fieldLink RX5 125 "PeatRailway$State" "depth" "[I" ∈ wsX5_depthOf := by decide +kernel
  refine z_eq (ws' := SW κ Sa g ++ (RC ra (Sa 0) f9 h9 a9 b9 p9 o9 ++ [])) ?_ rfl rfl rfl rfl
  have hn1 := hv.n1
  have hn2 := hv.n2
  refine z_aload_n C dX5_depthOf_0 0 rfl ?_
  refine z_iload_n C dX5_depthOf_1 1 rfl ?_
  exact zx_callV C htab hk (aX_ok adK adV) hX (mX5_requireBlock_no l D κ adK adV Sa _ ra f9 h9 a9 b9 p9 o9 σ M (x) hls hr hv hx) gX5_depthOf_X5_requireBlock rfl rfl rfl hdX5_requireBlock ⟨(Nat.le_of_ble_eq_true rfl), (Nat.le_of_ble_eq_true rfl)⟩ 13 rfl rfl [] (List.Perm.refl _) rfl (Nat.le_of_ble_eq_true rfl) dX5_depthOf_2 ⟨(Nat.le_of_ble_eq_true rfl), (Nat.le_of_ble_eq_true rfl)⟩ (Nat.le_of_ble_eq_true rfl) (Nat.le_of_ble_eq_true rfl) (fun u _ => ⟨(), trivial, List.Perm.of_eq rfl⟩)
set_option maxRecDepth 100000 in
set_option maxHeartbeats 4000000 in
theorem mX5_lostIn_ok (l : Launch) (D : va_G) (κ : Nat → ClassId) (Sa : Nat → Nat) (g : Nat → Nat → Nat) (ra f9 h9 a9 b9 p9 o9 : Nat) (σ : Nat → Nat) (M : Nat) (b : Nat) (hr : Rep g σ) (hv : Inv M σ) (hb : b < σ 1) : zM l yX5_lostIn wsX5_lostIn { frames := 1, cells := 0, slots := 0, locals := 21 } D (zTy κ) [.ref ra, .int (nI b)] (SW κ Sa g ++ (RC ra (Sa 0) f9 h9 a9 b9 p9 o9)) (S := Unit) (fun _ => (some (.int (nI (σ (5 + 6 * b + 5)))))) (fun _ => True) (fun _ => SW κ Sa g ++ (RC ra (Sa 0) f9 h9 a9 b9 p9 o9)) 0 0 := by
  refine zM_of (cc := cX5_lostIn) (maxL := 2) (rt := (some .int)) [(0, .ref (ra)), (1, .int (nI b))] (by decide +kernel) rfl (Nat.le_of_ble_eq_true rfl) rfl ?_
  intro p e s m args below meth c A C hr9 hk hnm
  have C : zC p s m args c cX5_lostIn 2 wsX5_lostIn RX5 D (zTy κ) A := C
  have hin5 : ∀ w ∈ wsX50, w ∈ wsX5_lostIn := fun w h => List.mem_cons_of_mem _ (List.mem_append_left _ (List.mem_append_left _ (List.mem_append_right _ h)))
  have hin4 : ∀ w ∈ wsX40, w ∈ wsX5_lostIn := fun w h => List.mem_cons_of_mem _ (List.mem_append_left _ (List.mem_append_right _ h))
  have k10 : Cond.fieldLink RX5 10 "PeatRailway" "current" "LPeatRailway$State;" ∈ wsX5_lostIn := by decide +kernel
  have k142 : Cond.fieldLink RX5 142 "PeatRailway$State" "lost" "[I" ∈ wsX5_lostIn := by decide +kernel
  refine z_eq (ws' := SW κ Sa g ++ (RC ra (Sa 0) f9 h9 a9 b9 p9 o9 ++ [])) ?_ rfl rfl rfl rfl
  have hn1 := hv.n1
  have hn2 := hv.n2
  refine z_aload_n C dX5_lostIn_0 0 rfl ?_
  refine z_iload_n C dX5_lostIn_1 1 rfl ?_
  refine z_callV C (mX5_requireBlock_ok l D κ Sa _ ra f9 h9 a9 b9 p9 o9 σ M b hr hv (by omega)) gX5_lostIn_X5_requireBlock rfl rfl rfl hdX5_requireBlock ⟨Nat.le_of_ble_eq_true rfl, Nat.le_of_ble_eq_true rfl⟩ 13 rfl rfl [] (fun _ => SW κ Sa g ++ (RC ra (Sa 0) f9 h9 a9 b9 p9 o9 ++ [])) (List.Perm.refl _) (fun _ => List.Perm.refl _) rfl (Nat.le_of_ble_eq_true rfl) dX5_lostIn_2 ⟨Nat.zero_le _, Nat.zero_le _⟩ (fun _ _ => ?_)
  refine z_aload_n C dX5_lostIn_5 0 rfl ?_
  refine z_get C hin5 13 rfl rfl 0 (by decide) k10 rfl dX5_lostIn_6 ?_
  refine zs_get_lost C hin4 k142 dX5_lostIn_9 ?_
  refine z_iload_n C dX5_lostIn_12 1 rfl ?_
  refine zs_ald_lost C (x := σ (5 + 6 * b + 5)) (by omega) (hr.1.b9 (by omega)) dX5_lostIn_13 ?_
  exact z_iret C hr9 hk (()) (rfl) (trivial) (List.Perm.of_eq rfl) dX5_lostIn_14 (Nat.le_refl _) (Nat.le_refl _)
theorem hdX5_lostIn : yX5_lostIn.cls = RX5 ∧ yX5_lostIn.cls ≠ "java/lang/invoke/MethodHandle" ∧ yX5_lostIn.cls ≠ "java/lang/invoke/VarHandle" ∧ (parseMethodDescriptor yX5_lostIn.desc).map (fun d => d.parameters.length) = some 1 := by decide +kernel
set_option maxRecDepth 100000 in
set_option maxHeartbeats 4000000 in
theorem mX5_lostIn_no (l : Launch) (D : va_G) (κ : Nat → ClassId) (adK adV : Nat → Nat) (Sa : Nat → Nat) (g : Nat → Nat → Nat) (ra f9 h9 a9 b9 p9 o9 : Nat) (σ : Nat → Nat) (M : Nat) (x : Int32) (hls : l.stackTraces = false) (hr : Rep g σ) (hv : Inv M σ) (hx : isB (σ 1) x = false) : zX (aX adK adV) l yX5_lostIn wsX5_lostIn { frames := 7, cells := 1, slots := 6, locals := 103 } D (zTy κ) [.ref (ra), .int (x)] (SW κ Sa g ++ (RC ra (Sa 0) f9 h9 a9 b9 p9 o9)) eIB (S := Unit) (fun _ => True) (fun _ => SW κ Sa g ++ (RC ra (Sa 0) f9 h9 a9 b9 p9 o9)) 1 6 := by
  refine zX_of (cc := cX5_lostIn) (maxL := 2) (rt := (some .int)) [(0, .ref (ra)), (1, .int (x))] (by decide +kernel) rfl (Nat.le_of_ble_eq_true rfl) rfl ?_
  intro p e s m args below meth c A C hk htab hX
  have C : zC p s m args c cX5_lostIn 2 wsX5_lostIn RX5 D (zTy κ) A := C
  have hin5 : ∀ w ∈ wsX50, w ∈ wsX5_lostIn := fun w h => List.mem_cons_of_mem _ (List.mem_append_left _ (List.mem_append_left _ (List.mem_append_right _ h)))
  have hin4 : ∀ w ∈ wsX40, w ∈ wsX5_lostIn := fun w h => List.mem_cons_of_mem _ (List.mem_append_left _ (List.mem_append_right _ h))
  have k10 : Cond.fieldLink RX5 10 "PeatRailway" "current" "LPeatRailway$State;" ∈ wsX5_lostIn := by decide +kernel
  have k142 : Cond.fieldLink RX5 142 "PeatRailway$State" "lost" "[I" ∈ wsX5_lostIn := by decide +kernel
  refine z_eq (ws' := SW κ Sa g ++ (RC ra (Sa 0) f9 h9 a9 b9 p9 o9 ++ [])) ?_ rfl rfl rfl rfl
  have hn1 := hv.n1
  have hn2 := hv.n2
  refine z_aload_n C dX5_lostIn_0 0 rfl ?_
  refine z_iload_n C dX5_lostIn_1 1 rfl ?_
  exact zx_callV C htab hk (aX_ok adK adV) hX (mX5_requireBlock_no l D κ adK adV Sa _ ra f9 h9 a9 b9 p9 o9 σ M (x) hls hr hv hx) gX5_lostIn_X5_requireBlock rfl rfl rfl hdX5_requireBlock ⟨(Nat.le_of_ble_eq_true rfl), (Nat.le_of_ble_eq_true rfl)⟩ 13 rfl rfl [] (List.Perm.refl _) rfl (Nat.le_of_ble_eq_true rfl) dX5_lostIn_2 ⟨(Nat.le_of_ble_eq_true rfl), (Nat.le_of_ble_eq_true rfl)⟩ (Nat.le_of_ble_eq_true rfl) (Nat.le_of_ble_eq_true rfl) (fun u _ => ⟨(), trivial, List.Perm.of_eq rfl⟩)
set_option maxRecDepth 100000 in
set_option maxHeartbeats 4000000 in
theorem mX5_isBend_ok (l : Launch) (D : va_G) (κ : Nat → ClassId) (Sa : Nat → Nat) (g : Nat → Nat → Nat) (ra f9 h9 a9 b9 p9 o9 : Nat) (σ : Nat → Nat) (M : Nat) (b : Nat) (hr : Rep g σ) (hv : Inv M σ) (hb : b < σ 1) : zM l yX5_isBend wsX5_isBend { frames := 1, cells := 0, slots := 0, locals := 21 } D (zTy κ) [.ref ra, .int (nI b)] (SW κ Sa g ++ (RC ra (Sa 0) f9 h9 a9 b9 p9 o9)) (S := Unit) (fun _ => (some (.int (nI (decide (σ (5 + 6 * b + 3) = 1)).toNat)))) (fun _ => True) (fun _ => SW κ Sa g ++ (RC ra (Sa 0) f9 h9 a9 b9 p9 o9)) 0 0 := by
  refine zM_of (cc := cX5_isBend) (maxL := 2) (rt := (some .boolean)) [(0, .ref (ra)), (1, .int (nI b))] (by decide +kernel) rfl (Nat.le_of_ble_eq_true rfl) rfl ?_
  intro p e s m args below meth c A C hr9 hk hnm
  have C : zC p s m args c cX5_isBend 2 wsX5_isBend RX5 D (zTy κ) A := C
  have hin5 : ∀ w ∈ wsX50, w ∈ wsX5_isBend := fun w h => List.mem_cons_of_mem _ (List.mem_append_left _ (List.mem_append_left _ (List.mem_append_right _ h)))
  have hin4 : ∀ w ∈ wsX40, w ∈ wsX5_isBend := fun w h => List.mem_cons_of_mem _ (List.mem_append_left _ (List.mem_append_right _ h))
  have k10 : Cond.fieldLink RX5 10 "PeatRailway" "current" "LPeatRailway$State;" ∈ wsX5_isBend := by decide +kernel
  refine z_eq (ws' := SW κ Sa g ++ (RC ra (Sa 0) f9 h9 a9 b9 p9 o9 ++ [])) ?_ rfl rfl rfl rfl
  have hn1 := hv.n1
  have hn2 := hv.n2
  refine z_aload_n C dX5_isBend_0 0 rfl ?_
  refine z_iload_n C dX5_isBend_1 1 rfl ?_
  refine z_callV C (mX5_requireBlock_ok l D κ Sa _ ra f9 h9 a9 b9 p9 o9 σ M b hr hv (by omega)) gX5_isBend_X5_requireBlock rfl rfl rfl hdX5_requireBlock ⟨Nat.le_of_ble_eq_true rfl, Nat.le_of_ble_eq_true rfl⟩ 13 rfl rfl [] (fun _ => SW κ Sa g ++ (RC ra (Sa 0) f9 h9 a9 b9 p9 o9 ++ [])) (List.Perm.refl _) (fun _ => List.Perm.refl _) rfl (Nat.le_of_ble_eq_true rfl) dX5_isBend_2 ⟨Nat.zero_le _, Nat.zero_le _⟩ (fun _ _ => ?_)
  refine z_aload_n C dX5_isBend_5 0 rfl ?_
  refine z_get C hin5 13 rfl rfl 0 (by decide) k10 rfl dX5_isBend_6 ?_
  refine z_iload_n C dX5_isBend_9 1 rfl ?_
  refine zc_call C (mX4_bends l D κ Sa _ _ _ b hr hv (by omega)) gX5_isBend_X4_bends rfl rfl rfl hdX4_bends ⟨Nat.le_of_ble_eq_true rfl, Nat.le_of_ble_eq_true rfl⟩ rfl (Nat.le_of_ble_eq_true rfl) dX5_isBend_10 ⟨Nat.zero_le _, Nat.zero_le _⟩ ?_
  exact z_zret C hr9 hk (zb_nar (decide (σ (5 + 6 * b + 3) = 1))) (()) (rfl) (trivial) (List.Perm.of_eq rfl) dX5_isBend_13 (Nat.le_refl _) (Nat.le_refl _)
theorem hdX5_isBend : yX5_isBend.cls = RX5 ∧ yX5_isBend.cls ≠ "java/lang/invoke/MethodHandle" ∧ yX5_isBend.cls ≠ "java/lang/invoke/VarHandle" ∧ (parseMethodDescriptor yX5_isBend.desc).map (fun d => d.parameters.length) = some 1 := by decide +kernel
set_option maxRecDepth 100000 in
set_option maxHeartbeats 4000000 in
theorem mX5_isBend_no (l : Launch) (D : va_G) (κ : Nat → ClassId) (adK adV : Nat → Nat) (Sa : Nat → Nat) (g : Nat → Nat → Nat) (ra f9 h9 a9 b9 p9 o9 : Nat) (σ : Nat → Nat) (M : Nat) (x : Int32) (hls : l.stackTraces = false) (hr : Rep g σ) (hv : Inv M σ) (hx : isB (σ 1) x = false) : zX (aX adK adV) l yX5_isBend wsX5_isBend { frames := 7, cells := 1, slots := 6, locals := 103 } D (zTy κ) [.ref (ra), .int (x)] (SW κ Sa g ++ (RC ra (Sa 0) f9 h9 a9 b9 p9 o9)) eIB (S := Unit) (fun _ => True) (fun _ => SW κ Sa g ++ (RC ra (Sa 0) f9 h9 a9 b9 p9 o9)) 1 6 := by
  refine zX_of (cc := cX5_isBend) (maxL := 2) (rt := (some .boolean)) [(0, .ref (ra)), (1, .int (x))] (by decide +kernel) rfl (Nat.le_of_ble_eq_true rfl) rfl ?_
  intro p e s m args below meth c A C hk htab hX
  have C : zC p s m args c cX5_isBend 2 wsX5_isBend RX5 D (zTy κ) A := C
  have hin5 : ∀ w ∈ wsX50, w ∈ wsX5_isBend := fun w h => List.mem_cons_of_mem _ (List.mem_append_left _ (List.mem_append_left _ (List.mem_append_right _ h)))
  have hin4 : ∀ w ∈ wsX40, w ∈ wsX5_isBend := fun w h => List.mem_cons_of_mem _ (List.mem_append_left _ (List.mem_append_right _ h))
  have k10 : Cond.fieldLink RX5 10 "PeatRailway" "current" "LPeatRailway$State;" ∈ wsX5_isBend := by decide +kernel
  refine z_eq (ws' := SW κ Sa g ++ (RC ra (Sa 0) f9 h9 a9 b9 p9 o9 ++ [])) ?_ rfl rfl rfl rfl
  have hn1 := hv.n1
  have hn2 := hv.n2
  refine z_aload_n C dX5_isBend_0 0 rfl ?_
  refine z_iload_n C dX5_isBend_1 1 rfl ?_
  exact zx_callV C htab hk (aX_ok adK adV) hX (mX5_requireBlock_no l D κ adK adV Sa _ ra f9 h9 a9 b9 p9 o9 σ M (x) hls hr hv hx) gX5_isBend_X5_requireBlock rfl rfl rfl hdX5_requireBlock ⟨(Nat.le_of_ble_eq_true rfl), (Nat.le_of_ble_eq_true rfl)⟩ 13 rfl rfl [] (List.Perm.refl _) rfl (Nat.le_of_ble_eq_true rfl) dX5_isBend_2 ⟨(Nat.le_of_ble_eq_true rfl), (Nat.le_of_ble_eq_true rfl)⟩ (Nat.le_of_ble_eq_true rfl) (Nat.le_of_ble_eq_true rfl) (fun u _ => ⟨(), trivial, List.Perm.of_eq rfl⟩)
set_option maxRecDepth 100000 in
set_option maxHeartbeats 4000000 in
theorem mX5_limitOf_ok (l : Launch) (D : va_G) (κ : Nat → ClassId) (Sa : Nat → Nat) (g : Nat → Nat → Nat) (ra f9 h9 a9 b9 p9 o9 : Nat) (σ : Nat → Nat) (M : Nat) (b : Nat) (hr : Rep g σ) (hv : Inv M σ) (hb : b < σ 1) : zM l yX5_limitOf wsX5_limitOf { frames := 1, cells := 0, slots := 0, locals := 21 } D (zTy κ) [.ref ra, .int (nI b)] (SW κ Sa g ++ (RC ra (Sa 0) f9 h9 a9 b9 p9 o9)) (S := Unit) (fun _ => (some (.int (nI (σ (5 + 6 * b + 2)))))) (fun _ => True) (fun _ => SW κ Sa g ++ (RC ra (Sa 0) f9 h9 a9 b9 p9 o9)) 0 0 := by
  refine zM_of (cc := cX5_limitOf) (maxL := 2) (rt := (some .int)) [(0, .ref (ra)), (1, .int (nI b))] (by decide +kernel) rfl (Nat.le_of_ble_eq_true rfl) rfl ?_
  intro p e s m args below meth c A C hr9 hk hnm
  have C : zC p s m args c cX5_limitOf 2 wsX5_limitOf RX5 D (zTy κ) A := C
  have hin5 : ∀ w ∈ wsX50, w ∈ wsX5_limitOf := fun w h => List.mem_cons_of_mem _ (List.mem_append_left _ (List.mem_append_left _ (List.mem_append_right _ h)))
  have hin4 : ∀ w ∈ wsX40, w ∈ wsX5_limitOf := fun w h => List.mem_cons_of_mem _ (List.mem_append_left _ (List.mem_append_right _ h))
  have k10 : Cond.fieldLink RX5 10 "PeatRailway" "current" "LPeatRailway$State;" ∈ wsX5_limitOf := by decide +kernel
  refine z_eq (ws' := SW κ Sa g ++ (RC ra (Sa 0) f9 h9 a9 b9 p9 o9 ++ [])) ?_ rfl rfl rfl rfl
  have hn1 := hv.n1
  have hn2 := hv.n2
  refine z_aload_n C dX5_limitOf_0 0 rfl ?_
  refine z_iload_n C dX5_limitOf_1 1 rfl ?_
  refine z_callV C (mX5_requireBlock_ok l D κ Sa _ ra f9 h9 a9 b9 p9 o9 σ M b hr hv (by omega)) gX5_limitOf_X5_requireBlock rfl rfl rfl hdX5_requireBlock ⟨Nat.le_of_ble_eq_true rfl, Nat.le_of_ble_eq_true rfl⟩ 13 rfl rfl [] (fun _ => SW κ Sa g ++ (RC ra (Sa 0) f9 h9 a9 b9 p9 o9 ++ [])) (List.Perm.refl _) (fun _ => List.Perm.refl _) rfl (Nat.le_of_ble_eq_true rfl) dX5_limitOf_2 ⟨Nat.zero_le _, Nat.zero_le _⟩ (fun _ _ => ?_)
  refine z_aload_n C dX5_limitOf_5 0 rfl ?_
  refine z_get C hin5 13 rfl rfl 0 (by decide) k10 rfl dX5_limitOf_6 ?_
  refine z_iload_n C dX5_limitOf_9 1 rfl ?_
  refine zc_call C (mX4_speedLimit l D κ Sa _ _ _ b hr hv (by omega)) gX5_limitOf_X4_speedLimit rfl rfl rfl hdX4_speedLimit ⟨Nat.le_of_ble_eq_true rfl, Nat.le_of_ble_eq_true rfl⟩ rfl (Nat.le_of_ble_eq_true rfl) dX5_limitOf_10 ⟨Nat.zero_le _, Nat.zero_le _⟩ ?_
  exact z_iret C hr9 hk (()) (rfl) (trivial) (List.Perm.of_eq rfl) dX5_limitOf_13 (Nat.le_refl _) (Nat.le_refl _)
theorem hdX5_limitOf : yX5_limitOf.cls = RX5 ∧ yX5_limitOf.cls ≠ "java/lang/invoke/MethodHandle" ∧ yX5_limitOf.cls ≠ "java/lang/invoke/VarHandle" ∧ (parseMethodDescriptor yX5_limitOf.desc).map (fun d => d.parameters.length) = some 1 := by decide +kernel
set_option maxRecDepth 100000 in
set_option maxHeartbeats 4000000 in
theorem mX5_limitOf_no (l : Launch) (D : va_G) (κ : Nat → ClassId) (adK adV : Nat → Nat) (Sa : Nat → Nat) (g : Nat → Nat → Nat) (ra f9 h9 a9 b9 p9 o9 : Nat) (σ : Nat → Nat) (M : Nat) (x : Int32) (hls : l.stackTraces = false) (hr : Rep g σ) (hv : Inv M σ) (hx : isB (σ 1) x = false) : zX (aX adK adV) l yX5_limitOf wsX5_limitOf { frames := 7, cells := 1, slots := 6, locals := 103 } D (zTy κ) [.ref (ra), .int (x)] (SW κ Sa g ++ (RC ra (Sa 0) f9 h9 a9 b9 p9 o9)) eIB (S := Unit) (fun _ => True) (fun _ => SW κ Sa g ++ (RC ra (Sa 0) f9 h9 a9 b9 p9 o9)) 1 6 := by
  refine zX_of (cc := cX5_limitOf) (maxL := 2) (rt := (some .int)) [(0, .ref (ra)), (1, .int (x))] (by decide +kernel) rfl (Nat.le_of_ble_eq_true rfl) rfl ?_
  intro p e s m args below meth c A C hk htab hX
  have C : zC p s m args c cX5_limitOf 2 wsX5_limitOf RX5 D (zTy κ) A := C
  have hin5 : ∀ w ∈ wsX50, w ∈ wsX5_limitOf := fun w h => List.mem_cons_of_mem _ (List.mem_append_left _ (List.mem_append_left _ (List.mem_append_right _ h)))
  have hin4 : ∀ w ∈ wsX40, w ∈ wsX5_limitOf := fun w h => List.mem_cons_of_mem _ (List.mem_append_left _ (List.mem_append_right _ h))
  have k10 : Cond.fieldLink RX5 10 "PeatRailway" "current" "LPeatRailway$State;" ∈ wsX5_limitOf := by decide +kernel
  refine z_eq (ws' := SW κ Sa g ++ (RC ra (Sa 0) f9 h9 a9 b9 p9 o9 ++ [])) ?_ rfl rfl rfl rfl
  have hn1 := hv.n1
  have hn2 := hv.n2
  refine z_aload_n C dX5_limitOf_0 0 rfl ?_
  refine z_iload_n C dX5_limitOf_1 1 rfl ?_
  exact zx_callV C htab hk (aX_ok adK adV) hX (mX5_requireBlock_no l D κ adK adV Sa _ ra f9 h9 a9 b9 p9 o9 σ M (x) hls hr hv hx) gX5_limitOf_X5_requireBlock rfl rfl rfl hdX5_requireBlock ⟨(Nat.le_of_ble_eq_true rfl), (Nat.le_of_ble_eq_true rfl)⟩ 13 rfl rfl [] (List.Perm.refl _) rfl (Nat.le_of_ble_eq_true rfl) dX5_limitOf_2 ⟨(Nat.le_of_ble_eq_true rfl), (Nat.le_of_ble_eq_true rfl)⟩ (Nat.le_of_ble_eq_true rfl) (Nat.le_of_ble_eq_true rfl) (fun u _ => ⟨(), trivial, List.Perm.of_eq rfl⟩)
set_option maxRecDepth 100000 in
set_option maxHeartbeats 4000000 in
theorem mX5_isClear_ok (l : Launch) (D : va_G) (κ : Nat → ClassId) (Sa : Nat → Nat) (g : Nat → Nat → Nat) (ra f9 h9 a9 b9 p9 o9 : Nat) (σ : Nat → Nat) (M : Nat) (b : Nat) (hr : Rep g σ) (hv : Inv M σ) (hb : b < σ 1) : zM l yX5_isClear wsX5_isClear { frames := 1, cells := 0, slots := 0, locals := 21 } D (zTy κ) [.ref ra, .int (nI b)] (SW κ Sa g ++ (RC ra (Sa 0) f9 h9 a9 b9 p9 o9)) (S := Unit) (fun _ => (some (.int (nI (decide (σ (5 + 6 * b + 4) = 1)).toNat)))) (fun _ => True) (fun _ => SW κ Sa g ++ (RC ra (Sa 0) f9 h9 a9 b9 p9 o9)) 0 0 := by
  refine zM_of (cc := cX5_isClear) (maxL := 2) (rt := (some .boolean)) [(0, .ref (ra)), (1, .int (nI b))] (by decide +kernel) rfl (Nat.le_of_ble_eq_true rfl) rfl ?_
  intro p e s m args below meth c A C hr9 hk hnm
  have C : zC p s m args c cX5_isClear 2 wsX5_isClear RX5 D (zTy κ) A := C
  have hin5 : ∀ w ∈ wsX50, w ∈ wsX5_isClear := fun w h => List.mem_cons_of_mem _ (List.mem_append_left _ (List.mem_append_left _ (List.mem_append_right _ h)))
  have hin4 : ∀ w ∈ wsX40, w ∈ wsX5_isClear := fun w h => List.mem_cons_of_mem _ (List.mem_append_left _ (List.mem_append_right _ h))
  have k10 : Cond.fieldLink RX5 10 "PeatRailway" "current" "LPeatRailway$State;" ∈ wsX5_isClear := by decide +kernel
  have k135 : Cond.fieldLink RX5 135 "PeatRailway$State" "clear" "[Z" ∈ wsX5_isClear := by decide +kernel
  refine z_eq (ws' := SW κ Sa g ++ (RC ra (Sa 0) f9 h9 a9 b9 p9 o9 ++ [])) ?_ rfl rfl rfl rfl
  have hn1 := hv.n1
  have hn2 := hv.n2
  refine z_aload_n C dX5_isClear_0 0 rfl ?_
  refine z_iload_n C dX5_isClear_1 1 rfl ?_
  refine z_callV C (mX5_requireBlock_ok l D κ Sa _ ra f9 h9 a9 b9 p9 o9 σ M b hr hv (by omega)) gX5_isClear_X5_requireBlock rfl rfl rfl hdX5_requireBlock ⟨Nat.le_of_ble_eq_true rfl, Nat.le_of_ble_eq_true rfl⟩ 13 rfl rfl [] (fun _ => SW κ Sa g ++ (RC ra (Sa 0) f9 h9 a9 b9 p9 o9 ++ [])) (List.Perm.refl _) (fun _ => List.Perm.refl _) rfl (Nat.le_of_ble_eq_true rfl) dX5_isClear_2 ⟨Nat.zero_le _, Nat.zero_le _⟩ (fun _ _ => ?_)
  refine z_aload_n C dX5_isClear_5 0 rfl ?_
  refine z_get C hin5 13 rfl rfl 0 (by decide) k10 rfl dX5_isClear_6 ?_
  refine zs_get_clear C hin4 k135 dX5_isClear_9 ?_
  refine z_iload_n C dX5_isClear_12 1 rfl ?_
  refine zs_ald_clear C (x := σ (5 + 6 * b + 4)) (by omega) (hr.1.b8 (by omega)) dX5_isClear_13 ?_
  have h01 := (hv.blk hb).2.2.2.2.2.2.1
  exact z_zret C hr9 hk (zn_nar1 h01) () (congrArg (fun n => some (Value.int (nI n))) (b01 h01).symm) trivial (List.Perm.of_eq rfl) dX5_isClear_14 (Nat.le_refl _) (Nat.le_refl _)
theorem hdX5_isClear : yX5_isClear.cls = RX5 ∧ yX5_isClear.cls ≠ "java/lang/invoke/MethodHandle" ∧ yX5_isClear.cls ≠ "java/lang/invoke/VarHandle" ∧ (parseMethodDescriptor yX5_isClear.desc).map (fun d => d.parameters.length) = some 1 := by decide +kernel
set_option maxRecDepth 100000 in
set_option maxHeartbeats 4000000 in
theorem mX5_isClear_no (l : Launch) (D : va_G) (κ : Nat → ClassId) (adK adV : Nat → Nat) (Sa : Nat → Nat) (g : Nat → Nat → Nat) (ra f9 h9 a9 b9 p9 o9 : Nat) (σ : Nat → Nat) (M : Nat) (x : Int32) (hls : l.stackTraces = false) (hr : Rep g σ) (hv : Inv M σ) (hx : isB (σ 1) x = false) : zX (aX adK adV) l yX5_isClear wsX5_isClear { frames := 7, cells := 1, slots := 6, locals := 103 } D (zTy κ) [.ref (ra), .int (x)] (SW κ Sa g ++ (RC ra (Sa 0) f9 h9 a9 b9 p9 o9)) eIB (S := Unit) (fun _ => True) (fun _ => SW κ Sa g ++ (RC ra (Sa 0) f9 h9 a9 b9 p9 o9)) 1 6 := by
  refine zX_of (cc := cX5_isClear) (maxL := 2) (rt := (some .boolean)) [(0, .ref (ra)), (1, .int (x))] (by decide +kernel) rfl (Nat.le_of_ble_eq_true rfl) rfl ?_
  intro p e s m args below meth c A C hk htab hX
  have C : zC p s m args c cX5_isClear 2 wsX5_isClear RX5 D (zTy κ) A := C
  have hin5 : ∀ w ∈ wsX50, w ∈ wsX5_isClear := fun w h => List.mem_cons_of_mem _ (List.mem_append_left _ (List.mem_append_left _ (List.mem_append_right _ h)))
  have hin4 : ∀ w ∈ wsX40, w ∈ wsX5_isClear := fun w h => List.mem_cons_of_mem _ (List.mem_append_left _ (List.mem_append_right _ h))
  have k10 : Cond.fieldLink RX5 10 "PeatRailway" "current" "LPeatRailway$State;" ∈ wsX5_isClear := by decide +kernel
  have k135 : Cond.fieldLink RX5 135 "PeatRailway$State" "clear" "[Z" ∈ wsX5_isClear := by decide +kernel
  refine z_eq (ws' := SW κ Sa g ++ (RC ra (Sa 0) f9 h9 a9 b9 p9 o9 ++ [])) ?_ rfl rfl rfl rfl
  have hn1 := hv.n1
  have hn2 := hv.n2
  refine z_aload_n C dX5_isClear_0 0 rfl ?_
  refine z_iload_n C dX5_isClear_1 1 rfl ?_
  exact zx_callV C htab hk (aX_ok adK adV) hX (mX5_requireBlock_no l D κ adK adV Sa _ ra f9 h9 a9 b9 p9 o9 σ M (x) hls hr hv hx) gX5_isClear_X5_requireBlock rfl rfl rfl hdX5_requireBlock ⟨(Nat.le_of_ble_eq_true rfl), (Nat.le_of_ble_eq_true rfl)⟩ 13 rfl rfl [] (List.Perm.refl _) rfl (Nat.le_of_ble_eq_true rfl) dX5_isClear_2 ⟨(Nat.le_of_ble_eq_true rfl), (Nat.le_of_ble_eq_true rfl)⟩ (Nat.le_of_ble_eq_true rfl) (Nat.le_of_ble_eq_true rfl) (fun u _ => ⟨(), trivial, List.Perm.of_eq rfl⟩)
set_option maxRecDepth 100000 in
set_option maxHeartbeats 4000000 in
theorem mX5_trainIn_ok (l : Launch) (D : va_G) (κ : Nat → ClassId) (Sa : Nat → Nat) (g : Nat → Nat → Nat) (ra f9 h9 a9 b9 p9 o9 : Nat) (σ : Nat → Nat) (M : Nat) (b : Nat) (hr : Rep g σ) (hv : Inv M σ) (hb : b < σ 1) : zM l yX5_trainIn wsX5_trainIn { frames := 1, cells := 0, slots := 0, locals := 21 } D (zTy κ) [.ref ra, .int (nI b)] (SW κ Sa g ++ (RC ra (Sa 0) f9 h9 a9 b9 p9 o9)) (S := Unit) (fun _ => (some (.int (tI (trAt σ b))))) (fun _ => True) (fun _ => SW κ Sa g ++ (RC ra (Sa 0) f9 h9 a9 b9 p9 o9)) 0 0 := by
  refine zM_of (cc := cX5_trainIn) (maxL := 2) (rt := (some .int)) [(0, .ref (ra)), (1, .int (nI b))] (by decide +kernel) rfl (Nat.le_of_ble_eq_true rfl) rfl ?_
  intro p e s m args below meth c A C hr9 hk hnm
  have C : zC p s m args c cX5_trainIn 2 wsX5_trainIn RX5 D (zTy κ) A := C
  have hin5 : ∀ w ∈ wsX50, w ∈ wsX5_trainIn := fun w h => List.mem_cons_of_mem _ (List.mem_append_left _ (List.mem_append_left _ (List.mem_append_right _ h)))
  have hin4 : ∀ w ∈ wsX40, w ∈ wsX5_trainIn := fun w h => List.mem_cons_of_mem _ (List.mem_append_left _ (List.mem_append_right _ h))
  have k10 : Cond.fieldLink RX5 10 "PeatRailway" "current" "LPeatRailway$State;" ∈ wsX5_trainIn := by decide +kernel
  have k139 : Cond.fieldLink RX5 139 "PeatRailway$State" "occupant" "[I" ∈ wsX5_trainIn := by decide +kernel
  refine z_eq (ws' := SW κ Sa g ++ (RC ra (Sa 0) f9 h9 a9 b9 p9 o9 ++ [])) ?_ rfl rfl rfl rfl
  have hn1 := hv.n1
  have hn2 := hv.n2
  refine z_aload_n C dX5_trainIn_0 0 rfl ?_
  refine z_iload_n C dX5_trainIn_1 1 rfl ?_
  refine z_callV C (mX5_requireBlock_ok l D κ Sa _ ra f9 h9 a9 b9 p9 o9 σ M b hr hv (by omega)) gX5_trainIn_X5_requireBlock rfl rfl rfl hdX5_requireBlock ⟨Nat.le_of_ble_eq_true rfl, Nat.le_of_ble_eq_true rfl⟩ 13 rfl rfl [] (fun _ => SW κ Sa g ++ (RC ra (Sa 0) f9 h9 a9 b9 p9 o9 ++ [])) (List.Perm.refl _) (fun _ => List.Perm.refl _) rfl (Nat.le_of_ble_eq_true rfl) dX5_trainIn_2 ⟨Nat.zero_le _, Nat.zero_le _⟩ (fun _ _ => ?_)
  refine z_aload_n C dX5_trainIn_5 0 rfl ?_
  refine z_get C hin5 13 rfl rfl 0 (by decide) k10 rfl dX5_trainIn_6 ?_
  refine zs_get_occupant C hin4 k139 dX5_trainIn_9 ?_
  refine z_iload_n C dX5_trainIn_12 1 rfl ?_
  refine zs_ald_occupant C (x := trAt σ b) (by omega) (hr.2 _ (by omega)) dX5_trainIn_13 ?_
  exact z_iret C hr9 hk (()) (rfl) (trivial) (List.Perm.of_eq rfl) dX5_trainIn_14 (Nat.le_refl _) (Nat.le_refl _)
theorem hdX5_trainIn : yX5_trainIn.cls = RX5 ∧ yX5_trainIn.cls ≠ "java/lang/invoke/MethodHandle" ∧ yX5_trainIn.cls ≠ "java/lang/invoke/VarHandle" ∧ (parseMethodDescriptor yX5_trainIn.desc).map (fun d => d.parameters.length) = some 1 := by decide +kernel
set_option maxRecDepth 100000 in
set_option maxHeartbeats 4000000 in
theorem mX5_trainIn_no (l : Launch) (D : va_G) (κ : Nat → ClassId) (adK adV : Nat → Nat) (Sa : Nat → Nat) (g : Nat → Nat → Nat) (ra f9 h9 a9 b9 p9 o9 : Nat) (σ : Nat → Nat) (M : Nat) (x : Int32) (hls : l.stackTraces = false) (hr : Rep g σ) (hv : Inv M σ) (hx : isB (σ 1) x = false) : zX (aX adK adV) l yX5_trainIn wsX5_trainIn { frames := 7, cells := 1, slots := 6, locals := 103 } D (zTy κ) [.ref (ra), .int (x)] (SW κ Sa g ++ (RC ra (Sa 0) f9 h9 a9 b9 p9 o9)) eIB (S := Unit) (fun _ => True) (fun _ => SW κ Sa g ++ (RC ra (Sa 0) f9 h9 a9 b9 p9 o9)) 1 6 := by
  refine zX_of (cc := cX5_trainIn) (maxL := 2) (rt := (some .int)) [(0, .ref (ra)), (1, .int (x))] (by decide +kernel) rfl (Nat.le_of_ble_eq_true rfl) rfl ?_
  intro p e s m args below meth c A C hk htab hX
  have C : zC p s m args c cX5_trainIn 2 wsX5_trainIn RX5 D (zTy κ) A := C
  have hin5 : ∀ w ∈ wsX50, w ∈ wsX5_trainIn := fun w h => List.mem_cons_of_mem _ (List.mem_append_left _ (List.mem_append_left _ (List.mem_append_right _ h)))
  have hin4 : ∀ w ∈ wsX40, w ∈ wsX5_trainIn := fun w h => List.mem_cons_of_mem _ (List.mem_append_left _ (List.mem_append_right _ h))
  have k10 : Cond.fieldLink RX5 10 "PeatRailway" "current" "LPeatRailway$State;" ∈ wsX5_trainIn := by decide +kernel
  have k139 : Cond.fieldLink RX5 139 "PeatRailway$State" "occupant" "[I" ∈ wsX5_trainIn := by decide +kernel
  refine z_eq (ws' := SW κ Sa g ++ (RC ra (Sa 0) f9 h9 a9 b9 p9 o9 ++ [])) ?_ rfl rfl rfl rfl
  have hn1 := hv.n1
  have hn2 := hv.n2
  refine z_aload_n C dX5_trainIn_0 0 rfl ?_
  refine z_iload_n C dX5_trainIn_1 1 rfl ?_
  exact zx_callV C htab hk (aX_ok adK adV) hX (mX5_requireBlock_no l D κ adK adV Sa _ ra f9 h9 a9 b9 p9 o9 σ M (x) hls hr hv hx) gX5_trainIn_X5_requireBlock rfl rfl rfl hdX5_requireBlock ⟨(Nat.le_of_ble_eq_true rfl), (Nat.le_of_ble_eq_true rfl)⟩ 13 rfl rfl [] (List.Perm.refl _) rfl (Nat.le_of_ble_eq_true rfl) dX5_trainIn_2 ⟨(Nat.le_of_ble_eq_true rfl), (Nat.le_of_ble_eq_true rfl)⟩ (Nat.le_of_ble_eq_true rfl) (Nat.le_of_ble_eq_true rfl) (fun u _ => ⟨(), trivial, List.Perm.of_eq rfl⟩)
set_option maxRecDepth 100000 in
set_option maxHeartbeats 4000000 in
theorem mX5_obstacle_ok (l : Launch) (D : va_G) (κ : Nat → ClassId) (Sa : Nat → Nat) (g : Nat → Nat → Nat) (ra f9 h9 a9 b9 p9 o9 : Nat) (σ : Nat → Nat) (M : Nat) (b : Nat) (hr : Rep g σ) (hv : Inv M σ) (hb : b < σ 1) : zM l yX5_obstacle wsX5_obstacle { frames := 2, cells := 0, slots := 0, locals := 42 } D (zTy κ) [.ref ra, .int (nI b)] (SW κ Sa g ++ (RC ra (Sa 0) f9 h9 a9 b9 p9 o9)) (S := Unit) (fun _ => (some (.int (nI (rsn σ b))))) (fun _ => True) (fun _ => SW κ Sa g ++ (RC ra (Sa 0) f9 h9 a9 b9 p9 o9)) 0 0 := by
  refine zM_of (cc := cX5_obstacle) (maxL := 2) (rt := (some .int)) [(0, .ref (ra)), (1, .int (nI b))] (by decide +kernel) rfl (Nat.le_of_ble_eq_true rfl) rfl ?_
  intro p e s m args below meth c A C hr9 hk hnm
  have C : zC p s m args c cX5_obstacle 2 wsX5_obstacle RX5 D (zTy κ) A := C
  have hin5 : ∀ w ∈ wsX50, w ∈ wsX5_obstacle := fun w h => List.mem_cons_of_mem _ (List.mem_append_left _ (List.mem_append_left _ (List.mem_append_right _ h)))
  have hin4 : ∀ w ∈ wsX40, w ∈ wsX5_obstacle := fun w h => List.mem_cons_of_mem _ (List.mem_append_left _ (List.mem_append_right _ h))
  have k10 : Cond.fieldLink RX5 10 "PeatRailway" "current" "LPeatRailway$State;" ∈ wsX5_obstacle := by decide +kernel
  refine z_eq (ws' := SW κ Sa g ++ (RC ra (Sa 0) f9 h9 a9 b9 p9 o9 ++ [])) ?_ rfl rfl rfl rfl
  have hn1 := hv.n1
  have hn2 := hv.n2
  refine z_aload_n C dX5_obstacle_0 0 rfl ?_
  refine z_iload_n C dX5_obstacle_1 1 rfl ?_
  refine z_callV C (mX5_requireBlock_ok l D κ Sa _ ra f9 h9 a9 b9 p9 o9 σ M b hr hv (by omega)) gX5_obstacle_X5_requireBlock rfl rfl rfl hdX5_requireBlock ⟨Nat.le_of_ble_eq_true rfl, Nat.le_of_ble_eq_true rfl⟩ 13 rfl rfl [] (fun _ => SW κ Sa g ++ (RC ra (Sa 0) f9 h9 a9 b9 p9 o9 ++ [])) (List.Perm.refl _) (fun _ => List.Perm.refl _) rfl (Nat.le_of_ble_eq_true rfl) dX5_obstacle_2 ⟨Nat.zero_le _, Nat.zero_le _⟩ (fun _ _ => ?_)
  refine z_aload_n C dX5_obstacle_5 0 rfl ?_
  refine z_get C hin5 13 rfl rfl 0 (by decide) k10 rfl dX5_obstacle_6 ?_
  refine z_iload_n C dX5_obstacle_9 1 rfl ?_
  refine zc_call C (mX4_leverObstacle l D κ Sa _ _ _ b hr hv (by omega)) gX5_obstacle_X4_leverObstacle rfl rfl rfl hdX4_leverObstacle ⟨Nat.le_of_ble_eq_true rfl, Nat.le_of_ble_eq_true rfl⟩ rfl (Nat.le_of_ble_eq_true rfl) dX5_obstacle_10 ⟨Nat.zero_le _, Nat.zero_le _⟩ ?_
  exact z_iret C hr9 hk (()) (rfl) (trivial) (List.Perm.of_eq rfl) dX5_obstacle_13 (Nat.le_refl _) (Nat.le_refl _)
theorem hdX5_obstacle : yX5_obstacle.cls = RX5 ∧ yX5_obstacle.cls ≠ "java/lang/invoke/MethodHandle" ∧ yX5_obstacle.cls ≠ "java/lang/invoke/VarHandle" ∧ (parseMethodDescriptor yX5_obstacle.desc).map (fun d => d.parameters.length) = some 1 := by decide +kernel
set_option maxRecDepth 100000 in
set_option maxHeartbeats 4000000 in
theorem mX5_obstacle_no (l : Launch) (D : va_G) (κ : Nat → ClassId) (adK adV : Nat → Nat) (Sa : Nat → Nat) (g : Nat → Nat → Nat) (ra f9 h9 a9 b9 p9 o9 : Nat) (σ : Nat → Nat) (M : Nat) (x : Int32) (hls : l.stackTraces = false) (hr : Rep g σ) (hv : Inv M σ) (hx : isB (σ 1) x = false) : zX (aX adK adV) l yX5_obstacle wsX5_obstacle { frames := 7, cells := 1, slots := 6, locals := 103 } D (zTy κ) [.ref (ra), .int (x)] (SW κ Sa g ++ (RC ra (Sa 0) f9 h9 a9 b9 p9 o9)) eIB (S := Unit) (fun _ => True) (fun _ => SW κ Sa g ++ (RC ra (Sa 0) f9 h9 a9 b9 p9 o9)) 1 6 := by
  refine zX_of (cc := cX5_obstacle) (maxL := 2) (rt := (some .int)) [(0, .ref (ra)), (1, .int (x))] (by decide +kernel) rfl (Nat.le_of_ble_eq_true rfl) rfl ?_
  intro p e s m args below meth c A C hk htab hX
  have C : zC p s m args c cX5_obstacle 2 wsX5_obstacle RX5 D (zTy κ) A := C
  have hin5 : ∀ w ∈ wsX50, w ∈ wsX5_obstacle := fun w h => List.mem_cons_of_mem _ (List.mem_append_left _ (List.mem_append_left _ (List.mem_append_right _ h)))
  have hin4 : ∀ w ∈ wsX40, w ∈ wsX5_obstacle := fun w h => List.mem_cons_of_mem _ (List.mem_append_left _ (List.mem_append_right _ h))
  have k10 : Cond.fieldLink RX5 10 "PeatRailway" "current" "LPeatRailway$State;" ∈ wsX5_obstacle := by decide +kernel
  refine z_eq (ws' := SW κ Sa g ++ (RC ra (Sa 0) f9 h9 a9 b9 p9 o9 ++ [])) ?_ rfl rfl rfl rfl
  have hn1 := hv.n1
  have hn2 := hv.n2
  refine z_aload_n C dX5_obstacle_0 0 rfl ?_
  refine z_iload_n C dX5_obstacle_1 1 rfl ?_
  exact zx_callV C htab hk (aX_ok adK adV) hX (mX5_requireBlock_no l D κ adK adV Sa _ ra f9 h9 a9 b9 p9 o9 σ M (x) hls hr hv hx) gX5_obstacle_X5_requireBlock rfl rfl rfl hdX5_requireBlock ⟨(Nat.le_of_ble_eq_true rfl), (Nat.le_of_ble_eq_true rfl)⟩ 13 rfl rfl [] (List.Perm.refl _) rfl (Nat.le_of_ble_eq_true rfl) dX5_obstacle_2 ⟨(Nat.le_of_ble_eq_true rfl), (Nat.le_of_ble_eq_true rfl)⟩ (Nat.le_of_ble_eq_true rfl) (Nat.le_of_ble_eq_true rfl) (fun u _ => ⟨(), trivial, List.Perm.of_eq rfl⟩)
set_option maxRecDepth 100000 in
set_option maxHeartbeats 4000000 in
theorem mX5_blockOf_ok (l : Launch) (D : va_G) (κ : Nat → ClassId) (Sa : Nat → Nat) (g : Nat → Nat → Nat) (ra f9 h9 a9 b9 p9 o9 : Nat) (σ : Nat → Nat) (M : Nat) (b : Nat) (hr : Rep g σ) (hv : Inv M σ) (hb : b < σ 2) : zM l yX5_blockOf wsX5_blockOf { frames := 1, cells := 0, slots := 0, locals := 21 } D (zTy κ) [.ref ra, .int (nI b)] (SW κ Sa g ++ (RC ra (Sa 0) f9 h9 a9 b9 p9 o9)) (S := Unit) (fun _ => (some (.int (nI (σ (65 + 5 * b + 2)))))) (fun _ => True) (fun _ => SW κ Sa g ++ (RC ra (Sa 0) f9 h9 a9 b9 p9 o9)) 0 0 := by
  refine zM_of (cc := cX5_blockOf) (maxL := 2) (rt := (some .int)) [(0, .ref (ra)), (1, .int (nI b))] (by decide +kernel) rfl (Nat.le_of_ble_eq_true rfl) rfl ?_
  intro p e s m args below meth c A C hr9 hk hnm
  have C : zC p s m args c cX5_blockOf 2 wsX5_blockOf RX5 D (zTy κ) A := C
  have hin5 : ∀ w ∈ wsX50, w ∈ wsX5_blockOf := fun w h => List.mem_cons_of_mem _ (List.mem_append_left _ (List.mem_append_left _ (List.mem_append_right _ h)))
  have hin4 : ∀ w ∈ wsX40, w ∈ wsX5_blockOf := fun w h => List.mem_cons_of_mem _ (List.mem_append_left _ (List.mem_append_right _ h))
  have k10 : Cond.fieldLink RX5 10 "PeatRailway" "current" "LPeatRailway$State;" ∈ wsX5_blockOf := by decide +kernel
  have k166 : Cond.fieldLink RX5 166 "PeatRailway$State" "place" "[I" ∈ wsX5_blockOf := by decide +kernel
  refine z_eq (ws' := SW κ Sa g ++ (RC ra (Sa 0) f9 h9 a9 b9 p9 o9 ++ [])) ?_ rfl rfl rfl rfl
  have hn1 := hv.n1
  have hn2 := hv.n2
  refine z_aload_n C dX5_blockOf_0 0 rfl ?_
  refine z_iload_n C dX5_blockOf_1 1 rfl ?_
  refine z_callV C (mX5_requireTrain_ok l D κ Sa _ ra f9 h9 a9 b9 p9 o9 σ M b hr hv (by omega)) gX5_blockOf_X5_requireTrain rfl rfl rfl hdX5_requireTrain ⟨Nat.le_of_ble_eq_true rfl, Nat.le_of_ble_eq_true rfl⟩ 13 rfl rfl [] (fun _ => SW κ Sa g ++ (RC ra (Sa 0) f9 h9 a9 b9 p9 o9 ++ [])) (List.Perm.refl _) (fun _ => List.Perm.refl _) rfl (Nat.le_of_ble_eq_true rfl) dX5_blockOf_2 ⟨Nat.zero_le _, Nat.zero_le _⟩ (fun _ _ => ?_)
  refine z_aload_n C dX5_blockOf_5 0 rfl ?_
  refine z_get C hin5 13 rfl rfl 0 (by decide) k10 rfl dX5_blockOf_6 ?_
  refine zs_get_place C hin4 k166 dX5_blockOf_9 ?_
  refine z_iload_n C dX5_blockOf_12 1 rfl ?_
  refine zs_ald_place C (x := σ (65 + 5 * b + 2)) (by omega) (hr.1.t11 (by omega)) dX5_blockOf_13 ?_
  exact z_iret C hr9 hk (()) (rfl) (trivial) (List.Perm.of_eq rfl) dX5_blockOf_14 (Nat.le_refl _) (Nat.le_refl _)
theorem hdX5_blockOf : yX5_blockOf.cls = RX5 ∧ yX5_blockOf.cls ≠ "java/lang/invoke/MethodHandle" ∧ yX5_blockOf.cls ≠ "java/lang/invoke/VarHandle" ∧ (parseMethodDescriptor yX5_blockOf.desc).map (fun d => d.parameters.length) = some 1 := by decide +kernel
set_option maxRecDepth 100000 in
set_option maxHeartbeats 4000000 in
theorem mX5_blockOf_no (l : Launch) (D : va_G) (κ : Nat → ClassId) (adK adV : Nat → Nat) (Sa : Nat → Nat) (g : Nat → Nat → Nat) (ra f9 h9 a9 b9 p9 o9 : Nat) (σ : Nat → Nat) (M : Nat) (x : Int32) (hls : l.stackTraces = false) (hr : Rep g σ) (hv : Inv M σ) (hx : isB (σ 2) x = false) : zX (aX adK adV) l yX5_blockOf wsX5_blockOf { frames := 7, cells := 1, slots := 6, locals := 103 } D (zTy κ) [.ref (ra), .int (x)] (SW κ Sa g ++ (RC ra (Sa 0) f9 h9 a9 b9 p9 o9)) eIB (S := Unit) (fun _ => True) (fun _ => SW κ Sa g ++ (RC ra (Sa 0) f9 h9 a9 b9 p9 o9)) 1 6 := by
  refine zX_of (cc := cX5_blockOf) (maxL := 2) (rt := (some .int)) [(0, .ref (ra)), (1, .int (x))] (by decide +kernel) rfl (Nat.le_of_ble_eq_true rfl) rfl ?_
  intro p e s m args below meth c A C hk htab hX
  have C : zC p s m args c cX5_blockOf 2 wsX5_blockOf RX5 D (zTy κ) A := C
  have hin5 : ∀ w ∈ wsX50, w ∈ wsX5_blockOf := fun w h => List.mem_cons_of_mem _ (List.mem_append_left _ (List.mem_append_left _ (List.mem_append_right _ h)))
  have hin4 : ∀ w ∈ wsX40, w ∈ wsX5_blockOf := fun w h => List.mem_cons_of_mem _ (List.mem_append_left _ (List.mem_append_right _ h))
  have k10 : Cond.fieldLink RX5 10 "PeatRailway" "current" "LPeatRailway$State;" ∈ wsX5_blockOf := by decide +kernel
  have k166 : Cond.fieldLink RX5 166 "PeatRailway$State" "place" "[I" ∈ wsX5_blockOf := by decide +kernel
  refine z_eq (ws' := SW κ Sa g ++ (RC ra (Sa 0) f9 h9 a9 b9 p9 o9 ++ [])) ?_ rfl rfl rfl rfl
  have hn1 := hv.n1
  have hn2 := hv.n2
  refine z_aload_n C dX5_blockOf_0 0 rfl ?_
  refine z_iload_n C dX5_blockOf_1 1 rfl ?_
  exact zx_callV C htab hk (aX_ok adK adV) hX (mX5_requireTrain_no l D κ adK adV Sa _ ra f9 h9 a9 b9 p9 o9 σ M (x) hls hr hv hx) gX5_blockOf_X5_requireTrain rfl rfl rfl hdX5_requireTrain ⟨(Nat.le_of_ble_eq_true rfl), (Nat.le_of_ble_eq_true rfl)⟩ 13 rfl rfl [] (List.Perm.refl _) rfl (Nat.le_of_ble_eq_true rfl) dX5_blockOf_2 ⟨(Nat.le_of_ble_eq_true rfl), (Nat.le_of_ble_eq_true rfl)⟩ (Nat.le_of_ble_eq_true rfl) (Nat.le_of_ble_eq_true rfl) (fun u _ => ⟨(), trivial, List.Perm.of_eq rfl⟩)
set_option maxRecDepth 100000 in
set_option maxHeartbeats 4000000 in
theorem mX5_positionOf_ok (l : Launch) (D : va_G) (κ : Nat → ClassId) (Sa : Nat → Nat) (g : Nat → Nat → Nat) (ra f9 h9 a9 b9 p9 o9 : Nat) (σ : Nat → Nat) (M : Nat) (b : Nat) (hr : Rep g σ) (hv : Inv M σ) (hb : b < σ 2) : zM l yX5_positionOf wsX5_positionOf { frames := 1, cells := 0, slots := 0, locals := 21 } D (zTy κ) [.ref ra, .int (nI b)] (SW κ Sa g ++ (RC ra (Sa 0) f9 h9 a9 b9 p9 o9)) (S := Unit) (fun _ => (some (.int (nI (σ (65 + 5 * b + 3)))))) (fun _ => True) (fun _ => SW κ Sa g ++ (RC ra (Sa 0) f9 h9 a9 b9 p9 o9)) 0 0 := by
  refine zM_of (cc := cX5_positionOf) (maxL := 2) (rt := (some .int)) [(0, .ref (ra)), (1, .int (nI b))] (by decide +kernel) rfl (Nat.le_of_ble_eq_true rfl) rfl ?_
  intro p e s m args below meth c A C hr9 hk hnm
  have C : zC p s m args c cX5_positionOf 2 wsX5_positionOf RX5 D (zTy κ) A := C
  have hin5 : ∀ w ∈ wsX50, w ∈ wsX5_positionOf := fun w h => List.mem_cons_of_mem _ (List.mem_append_left _ (List.mem_append_left _ (List.mem_append_right _ h)))
  have hin4 : ∀ w ∈ wsX40, w ∈ wsX5_positionOf := fun w h => List.mem_cons_of_mem _ (List.mem_append_left _ (List.mem_append_right _ h))
  have k10 : Cond.fieldLink RX5 10 "PeatRailway" "current" "LPeatRailway$State;" ∈ wsX5_positionOf := by decide +kernel
  have k169 : Cond.fieldLink RX5 169 "PeatRailway$State" "position" "[I" ∈ wsX5_positionOf := by decide +kernel
  refine z_eq (ws' := SW κ Sa g ++ (RC ra (Sa 0) f9 h9 a9 b9 p9 o9 ++ [])) ?_ rfl rfl rfl rfl
  have hn1 := hv.n1
  have hn2 := hv.n2
  refine z_aload_n C dX5_positionOf_0 0 rfl ?_
  refine z_iload_n C dX5_positionOf_1 1 rfl ?_
  refine z_callV C (mX5_requireTrain_ok l D κ Sa _ ra f9 h9 a9 b9 p9 o9 σ M b hr hv (by omega)) gX5_positionOf_X5_requireTrain rfl rfl rfl hdX5_requireTrain ⟨Nat.le_of_ble_eq_true rfl, Nat.le_of_ble_eq_true rfl⟩ 13 rfl rfl [] (fun _ => SW κ Sa g ++ (RC ra (Sa 0) f9 h9 a9 b9 p9 o9 ++ [])) (List.Perm.refl _) (fun _ => List.Perm.refl _) rfl (Nat.le_of_ble_eq_true rfl) dX5_positionOf_2 ⟨Nat.zero_le _, Nat.zero_le _⟩ (fun _ _ => ?_)
  refine z_aload_n C dX5_positionOf_5 0 rfl ?_
  refine z_get C hin5 13 rfl rfl 0 (by decide) k10 rfl dX5_positionOf_6 ?_
  refine zs_get_position C hin4 k169 dX5_positionOf_9 ?_
  refine z_iload_n C dX5_positionOf_12 1 rfl ?_
  refine zs_ald_position C (x := σ (65 + 5 * b + 3)) (by omega) (hr.1.t12 (by omega)) dX5_positionOf_13 ?_
  exact z_iret C hr9 hk (()) (rfl) (trivial) (List.Perm.of_eq rfl) dX5_positionOf_14 (Nat.le_refl _) (Nat.le_refl _)
theorem hdX5_positionOf : yX5_positionOf.cls = RX5 ∧ yX5_positionOf.cls ≠ "java/lang/invoke/MethodHandle" ∧ yX5_positionOf.cls ≠ "java/lang/invoke/VarHandle" ∧ (parseMethodDescriptor yX5_positionOf.desc).map (fun d => d.parameters.length) = some 1 := by decide +kernel
set_option maxRecDepth 100000 in
set_option maxHeartbeats 4000000 in
theorem mX5_positionOf_no (l : Launch) (D : va_G) (κ : Nat → ClassId) (adK adV : Nat → Nat) (Sa : Nat → Nat) (g : Nat → Nat → Nat) (ra f9 h9 a9 b9 p9 o9 : Nat) (σ : Nat → Nat) (M : Nat) (x : Int32) (hls : l.stackTraces = false) (hr : Rep g σ) (hv : Inv M σ) (hx : isB (σ 2) x = false) : zX (aX adK adV) l yX5_positionOf wsX5_positionOf { frames := 7, cells := 1, slots := 6, locals := 103 } D (zTy κ) [.ref (ra), .int (x)] (SW κ Sa g ++ (RC ra (Sa 0) f9 h9 a9 b9 p9 o9)) eIB (S := Unit) (fun _ => True) (fun _ => SW κ Sa g ++ (RC ra (Sa 0) f9 h9 a9 b9 p9 o9)) 1 6 := by
  refine zX_of (cc := cX5_positionOf) (maxL := 2) (rt := (some .int)) [(0, .ref (ra)), (1, .int (x))] (by decide +kernel) rfl (Nat.le_of_ble_eq_true rfl) rfl ?_
  intro p e s m args below meth c A C hk htab hX
  have C : zC p s m args c cX5_positionOf 2 wsX5_positionOf RX5 D (zTy κ) A := C
  have hin5 : ∀ w ∈ wsX50, w ∈ wsX5_positionOf := fun w h => List.mem_cons_of_mem _ (List.mem_append_left _ (List.mem_append_left _ (List.mem_append_right _ h)))
  have hin4 : ∀ w ∈ wsX40, w ∈ wsX5_positionOf := fun w h => List.mem_cons_of_mem _ (List.mem_append_left _ (List.mem_append_right _ h))
  have k10 : Cond.fieldLink RX5 10 "PeatRailway" "current" "LPeatRailway$State;" ∈ wsX5_positionOf := by decide +kernel
  have k169 : Cond.fieldLink RX5 169 "PeatRailway$State" "position" "[I" ∈ wsX5_positionOf := by decide +kernel
  refine z_eq (ws' := SW κ Sa g ++ (RC ra (Sa 0) f9 h9 a9 b9 p9 o9 ++ [])) ?_ rfl rfl rfl rfl
  have hn1 := hv.n1
  have hn2 := hv.n2
  refine z_aload_n C dX5_positionOf_0 0 rfl ?_
  refine z_iload_n C dX5_positionOf_1 1 rfl ?_
  exact zx_callV C htab hk (aX_ok adK adV) hX (mX5_requireTrain_no l D κ adK adV Sa _ ra f9 h9 a9 b9 p9 o9 σ M (x) hls hr hv hx) gX5_positionOf_X5_requireTrain rfl rfl rfl hdX5_requireTrain ⟨(Nat.le_of_ble_eq_true rfl), (Nat.le_of_ble_eq_true rfl)⟩ 13 rfl rfl [] (List.Perm.refl _) rfl (Nat.le_of_ble_eq_true rfl) dX5_positionOf_2 ⟨(Nat.le_of_ble_eq_true rfl), (Nat.le_of_ble_eq_true rfl)⟩ (Nat.le_of_ble_eq_true rfl) (Nat.le_of_ble_eq_true rfl) (fun u _ => ⟨(), trivial, List.Perm.of_eq rfl⟩)
set_option maxRecDepth 100000 in
set_option maxHeartbeats 4000000 in
theorem mX5_wagonsOf_ok (l : Launch) (D : va_G) (κ : Nat → ClassId) (Sa : Nat → Nat) (g : Nat → Nat → Nat) (ra f9 h9 a9 b9 p9 o9 : Nat) (σ : Nat → Nat) (M : Nat) (b : Nat) (hr : Rep g σ) (hv : Inv M σ) (hb : b < σ 2) : zM l yX5_wagonsOf wsX5_wagonsOf { frames := 1, cells := 0, slots := 0, locals := 21 } D (zTy κ) [.ref ra, .int (nI b)] (SW κ Sa g ++ (RC ra (Sa 0) f9 h9 a9 b9 p9 o9)) (S := Unit) (fun _ => (some (.int (nI (σ (65 + 5 * b + 0)))))) (fun _ => True) (fun _ => SW κ Sa g ++ (RC ra (Sa 0) f9 h9 a9 b9 p9 o9)) 0 0 := by
  refine zM_of (cc := cX5_wagonsOf) (maxL := 2) (rt := (some .int)) [(0, .ref (ra)), (1, .int (nI b))] (by decide +kernel) rfl (Nat.le_of_ble_eq_true rfl) rfl ?_
  intro p e s m args below meth c A C hr9 hk hnm
  have C : zC p s m args c cX5_wagonsOf 2 wsX5_wagonsOf RX5 D (zTy κ) A := C
  have hin5 : ∀ w ∈ wsX50, w ∈ wsX5_wagonsOf := fun w h => List.mem_cons_of_mem _ (List.mem_append_left _ (List.mem_append_left _ (List.mem_append_right _ h)))
  have hin4 : ∀ w ∈ wsX40, w ∈ wsX5_wagonsOf := fun w h => List.mem_cons_of_mem _ (List.mem_append_left _ (List.mem_append_right _ h))
  have k10 : Cond.fieldLink RX5 10 "PeatRailway" "current" "LPeatRailway$State;" ∈ wsX5_wagonsOf := by decide +kernel
  have k172 : Cond.fieldLink RX5 172 "PeatRailway$State" "wagons" "[I" ∈ wsX5_wagonsOf := by decide +kernel
  refine z_eq (ws' := SW κ Sa g ++ (RC ra (Sa 0) f9 h9 a9 b9 p9 o9 ++ [])) ?_ rfl rfl rfl rfl
  have hn1 := hv.n1
  have hn2 := hv.n2
  refine z_aload_n C dX5_wagonsOf_0 0 rfl ?_
  refine z_iload_n C dX5_wagonsOf_1 1 rfl ?_
  refine z_callV C (mX5_requireTrain_ok l D κ Sa _ ra f9 h9 a9 b9 p9 o9 σ M b hr hv (by omega)) gX5_wagonsOf_X5_requireTrain rfl rfl rfl hdX5_requireTrain ⟨Nat.le_of_ble_eq_true rfl, Nat.le_of_ble_eq_true rfl⟩ 13 rfl rfl [] (fun _ => SW κ Sa g ++ (RC ra (Sa 0) f9 h9 a9 b9 p9 o9 ++ [])) (List.Perm.refl _) (fun _ => List.Perm.refl _) rfl (Nat.le_of_ble_eq_true rfl) dX5_wagonsOf_2 ⟨Nat.zero_le _, Nat.zero_le _⟩ (fun _ _ => ?_)
  refine z_aload_n C dX5_wagonsOf_5 0 rfl ?_
  refine z_get C hin5 13 rfl rfl 0 (by decide) k10 rfl dX5_wagonsOf_6 ?_
  refine zs_get_wagons C hin4 k172 dX5_wagonsOf_9 ?_
  refine z_iload_n C dX5_wagonsOf_12 1 rfl ?_
  refine zs_ald_wagons C (x := σ (65 + 5 * b + 0)) (by omega) (hr.1.t13 (by omega)) dX5_wagonsOf_13 ?_
  exact z_iret C hr9 hk (()) (rfl) (trivial) (List.Perm.of_eq rfl) dX5_wagonsOf_14 (Nat.le_refl _) (Nat.le_refl _)
theorem hdX5_wagonsOf : yX5_wagonsOf.cls = RX5 ∧ yX5_wagonsOf.cls ≠ "java/lang/invoke/MethodHandle" ∧ yX5_wagonsOf.cls ≠ "java/lang/invoke/VarHandle" ∧ (parseMethodDescriptor yX5_wagonsOf.desc).map (fun d => d.parameters.length) = some 1 := by decide +kernel
set_option maxRecDepth 100000 in
set_option maxHeartbeats 4000000 in
theorem mX5_wagonsOf_no (l : Launch) (D : va_G) (κ : Nat → ClassId) (adK adV : Nat → Nat) (Sa : Nat → Nat) (g : Nat → Nat → Nat) (ra f9 h9 a9 b9 p9 o9 : Nat) (σ : Nat → Nat) (M : Nat) (x : Int32) (hls : l.stackTraces = false) (hr : Rep g σ) (hv : Inv M σ) (hx : isB (σ 2) x = false) : zX (aX adK adV) l yX5_wagonsOf wsX5_wagonsOf { frames := 7, cells := 1, slots := 6, locals := 103 } D (zTy κ) [.ref (ra), .int (x)] (SW κ Sa g ++ (RC ra (Sa 0) f9 h9 a9 b9 p9 o9)) eIB (S := Unit) (fun _ => True) (fun _ => SW κ Sa g ++ (RC ra (Sa 0) f9 h9 a9 b9 p9 o9)) 1 6 := by
  refine zX_of (cc := cX5_wagonsOf) (maxL := 2) (rt := (some .int)) [(0, .ref (ra)), (1, .int (x))] (by decide +kernel) rfl (Nat.le_of_ble_eq_true rfl) rfl ?_
  intro p e s m args below meth c A C hk htab hX
  have C : zC p s m args c cX5_wagonsOf 2 wsX5_wagonsOf RX5 D (zTy κ) A := C
  have hin5 : ∀ w ∈ wsX50, w ∈ wsX5_wagonsOf := fun w h => List.mem_cons_of_mem _ (List.mem_append_left _ (List.mem_append_left _ (List.mem_append_right _ h)))
  have hin4 : ∀ w ∈ wsX40, w ∈ wsX5_wagonsOf := fun w h => List.mem_cons_of_mem _ (List.mem_append_left _ (List.mem_append_right _ h))
  have k10 : Cond.fieldLink RX5 10 "PeatRailway" "current" "LPeatRailway$State;" ∈ wsX5_wagonsOf := by decide +kernel
  have k172 : Cond.fieldLink RX5 172 "PeatRailway$State" "wagons" "[I" ∈ wsX5_wagonsOf := by decide +kernel
  refine z_eq (ws' := SW κ Sa g ++ (RC ra (Sa 0) f9 h9 a9 b9 p9 o9 ++ [])) ?_ rfl rfl rfl rfl
  have hn1 := hv.n1
  have hn2 := hv.n2
  refine z_aload_n C dX5_wagonsOf_0 0 rfl ?_
  refine z_iload_n C dX5_wagonsOf_1 1 rfl ?_
  exact zx_callV C htab hk (aX_ok adK adV) hX (mX5_requireTrain_no l D κ adK adV Sa _ ra f9 h9 a9 b9 p9 o9 σ M (x) hls hr hv hx) gX5_wagonsOf_X5_requireTrain rfl rfl rfl hdX5_requireTrain ⟨(Nat.le_of_ble_eq_true rfl), (Nat.le_of_ble_eq_true rfl)⟩ 13 rfl rfl [] (List.Perm.refl _) rfl (Nat.le_of_ble_eq_true rfl) dX5_wagonsOf_2 ⟨(Nat.le_of_ble_eq_true rfl), (Nat.le_of_ble_eq_true rfl)⟩ (Nat.le_of_ble_eq_true rfl) (Nat.le_of_ble_eq_true rfl) (fun u _ => ⟨(), trivial, List.Perm.of_eq rfl⟩)
set_option maxRecDepth 100000 in
set_option maxHeartbeats 4000000 in
theorem mX5_topSpeedOf_ok (l : Launch) (D : va_G) (κ : Nat → ClassId) (Sa : Nat → Nat) (g : Nat → Nat → Nat) (ra f9 h9 a9 b9 p9 o9 : Nat) (σ : Nat → Nat) (M : Nat) (b : Nat) (hr : Rep g σ) (hv : Inv M σ) (hb : b < σ 2) : zM l yX5_topSpeedOf wsX5_topSpeedOf { frames := 1, cells := 0, slots := 0, locals := 21 } D (zTy κ) [.ref ra, .int (nI b)] (SW κ Sa g ++ (RC ra (Sa 0) f9 h9 a9 b9 p9 o9)) (S := Unit) (fun _ => (some (.int (nI (σ (65 + 5 * b + 1)))))) (fun _ => True) (fun _ => SW κ Sa g ++ (RC ra (Sa 0) f9 h9 a9 b9 p9 o9)) 0 0 := by
  refine zM_of (cc := cX5_topSpeedOf) (maxL := 2) (rt := (some .int)) [(0, .ref (ra)), (1, .int (nI b))] (by decide +kernel) rfl (Nat.le_of_ble_eq_true rfl) rfl ?_
  intro p e s m args below meth c A C hr9 hk hnm
  have C : zC p s m args c cX5_topSpeedOf 2 wsX5_topSpeedOf RX5 D (zTy κ) A := C
  have hin5 : ∀ w ∈ wsX50, w ∈ wsX5_topSpeedOf := fun w h => List.mem_cons_of_mem _ (List.mem_append_left _ (List.mem_append_left _ (List.mem_append_right _ h)))
  have hin4 : ∀ w ∈ wsX40, w ∈ wsX5_topSpeedOf := fun w h => List.mem_cons_of_mem _ (List.mem_append_left _ (List.mem_append_right _ h))
  have k10 : Cond.fieldLink RX5 10 "PeatRailway" "current" "LPeatRailway$State;" ∈ wsX5_topSpeedOf := by decide +kernel
  have k175 : Cond.fieldLink RX5 175 "PeatRailway$State" "topSpeed" "[I" ∈ wsX5_topSpeedOf := by decide +kernel
  refine z_eq (ws' := SW κ Sa g ++ (RC ra (Sa 0) f9 h9 a9 b9 p9 o9 ++ [])) ?_ rfl rfl rfl rfl
  have hn1 := hv.n1
  have hn2 := hv.n2
  refine z_aload_n C dX5_topSpeedOf_0 0 rfl ?_
  refine z_iload_n C dX5_topSpeedOf_1 1 rfl ?_
  refine z_callV C (mX5_requireTrain_ok l D κ Sa _ ra f9 h9 a9 b9 p9 o9 σ M b hr hv (by omega)) gX5_topSpeedOf_X5_requireTrain rfl rfl rfl hdX5_requireTrain ⟨Nat.le_of_ble_eq_true rfl, Nat.le_of_ble_eq_true rfl⟩ 13 rfl rfl [] (fun _ => SW κ Sa g ++ (RC ra (Sa 0) f9 h9 a9 b9 p9 o9 ++ [])) (List.Perm.refl _) (fun _ => List.Perm.refl _) rfl (Nat.le_of_ble_eq_true rfl) dX5_topSpeedOf_2 ⟨Nat.zero_le _, Nat.zero_le _⟩ (fun _ _ => ?_)
  refine z_aload_n C dX5_topSpeedOf_5 0 rfl ?_
  refine z_get C hin5 13 rfl rfl 0 (by decide) k10 rfl dX5_topSpeedOf_6 ?_
  refine zs_get_topSpeed C hin4 k175 dX5_topSpeedOf_9 ?_
  refine z_iload_n C dX5_topSpeedOf_12 1 rfl ?_
  refine zs_ald_topSpeed C (x := σ (65 + 5 * b + 1)) (by omega) (hr.1.t14 (by omega)) dX5_topSpeedOf_13 ?_
  exact z_iret C hr9 hk (()) (rfl) (trivial) (List.Perm.of_eq rfl) dX5_topSpeedOf_14 (Nat.le_refl _) (Nat.le_refl _)
theorem hdX5_topSpeedOf : yX5_topSpeedOf.cls = RX5 ∧ yX5_topSpeedOf.cls ≠ "java/lang/invoke/MethodHandle" ∧ yX5_topSpeedOf.cls ≠ "java/lang/invoke/VarHandle" ∧ (parseMethodDescriptor yX5_topSpeedOf.desc).map (fun d => d.parameters.length) = some 1 := by decide +kernel
set_option maxRecDepth 100000 in
set_option maxHeartbeats 4000000 in
theorem mX5_topSpeedOf_no (l : Launch) (D : va_G) (κ : Nat → ClassId) (adK adV : Nat → Nat) (Sa : Nat → Nat) (g : Nat → Nat → Nat) (ra f9 h9 a9 b9 p9 o9 : Nat) (σ : Nat → Nat) (M : Nat) (x : Int32) (hls : l.stackTraces = false) (hr : Rep g σ) (hv : Inv M σ) (hx : isB (σ 2) x = false) : zX (aX adK adV) l yX5_topSpeedOf wsX5_topSpeedOf { frames := 7, cells := 1, slots := 6, locals := 103 } D (zTy κ) [.ref (ra), .int (x)] (SW κ Sa g ++ (RC ra (Sa 0) f9 h9 a9 b9 p9 o9)) eIB (S := Unit) (fun _ => True) (fun _ => SW κ Sa g ++ (RC ra (Sa 0) f9 h9 a9 b9 p9 o9)) 1 6 := by
  refine zX_of (cc := cX5_topSpeedOf) (maxL := 2) (rt := (some .int)) [(0, .ref (ra)), (1, .int (x))] (by decide +kernel) rfl (Nat.le_of_ble_eq_true rfl) rfl ?_
  intro p e s m args below meth c A C hk htab hX
  have C : zC p s m args c cX5_topSpeedOf 2 wsX5_topSpeedOf RX5 D (zTy κ) A := C
  have hin5 : ∀ w ∈ wsX50, w ∈ wsX5_topSpeedOf := fun w h => List.mem_cons_of_mem _ (List.mem_append_left _ (List.mem_append_left _ (List.mem_append_right _ h)))
  have hin4 : ∀ w ∈ wsX40, w ∈ wsX5_topSpeedOf := fun w h => List.mem_cons_of_mem _ (List.mem_append_left _ (List.mem_append_right _ h))
  have k10 : Cond.fieldLink RX5 10 "PeatRailway" "current" "LPeatRailway$State;" ∈ wsX5_topSpeedOf := by decide +kernel
  have k175 : Cond.fieldLink RX5 175 "PeatRailway$State" "topSpeed" "[I" ∈ wsX5_topSpeedOf := by decide +kernel
  refine z_eq (ws' := SW κ Sa g ++ (RC ra (Sa 0) f9 h9 a9 b9 p9 o9 ++ [])) ?_ rfl rfl rfl rfl
  have hn1 := hv.n1
  have hn2 := hv.n2
  refine z_aload_n C dX5_topSpeedOf_0 0 rfl ?_
  refine z_iload_n C dX5_topSpeedOf_1 1 rfl ?_
  exact zx_callV C htab hk (aX_ok adK adV) hX (mX5_requireTrain_no l D κ adK adV Sa _ ra f9 h9 a9 b9 p9 o9 σ M (x) hls hr hv hx) gX5_topSpeedOf_X5_requireTrain rfl rfl rfl hdX5_requireTrain ⟨(Nat.le_of_ble_eq_true rfl), (Nat.le_of_ble_eq_true rfl)⟩ 13 rfl rfl [] (List.Perm.refl _) rfl (Nat.le_of_ble_eq_true rfl) dX5_topSpeedOf_2 ⟨(Nat.le_of_ble_eq_true rfl), (Nat.le_of_ble_eq_true rfl)⟩ (Nat.le_of_ble_eq_true rfl) (Nat.le_of_ble_eq_true rfl) (fun u _ => ⟨(), trivial, List.Perm.of_eq rfl⟩)
set_option maxRecDepth 100000 in
set_option maxHeartbeats 4000000 in
theorem mX5_waitsOf_ok (l : Launch) (D : va_G) (κ : Nat → ClassId) (Sa : Nat → Nat) (g : Nat → Nat → Nat) (ra f9 h9 a9 b9 p9 o9 : Nat) (σ : Nat → Nat) (M : Nat) (b : Nat) (hr : Rep g σ) (hv : Inv M σ) (hb : b < σ 2) : zM l yX5_waitsOf wsX5_waitsOf { frames := 1, cells := 0, slots := 0, locals := 21 } D (zTy κ) [.ref ra, .int (nI b)] (SW κ Sa g ++ (RC ra (Sa 0) f9 h9 a9 b9 p9 o9)) (S := Unit) (fun _ => (some (.int (nI (σ (65 + 5 * b + 4)))))) (fun _ => True) (fun _ => SW κ Sa g ++ (RC ra (Sa 0) f9 h9 a9 b9 p9 o9)) 0 0 := by
  refine zM_of (cc := cX5_waitsOf) (maxL := 2) (rt := (some .int)) [(0, .ref (ra)), (1, .int (nI b))] (by decide +kernel) rfl (Nat.le_of_ble_eq_true rfl) rfl ?_
  intro p e s m args below meth c A C hr9 hk hnm
  have C : zC p s m args c cX5_waitsOf 2 wsX5_waitsOf RX5 D (zTy κ) A := C
  have hin5 : ∀ w ∈ wsX50, w ∈ wsX5_waitsOf := fun w h => List.mem_cons_of_mem _ (List.mem_append_left _ (List.mem_append_left _ (List.mem_append_right _ h)))
  have hin4 : ∀ w ∈ wsX40, w ∈ wsX5_waitsOf := fun w h => List.mem_cons_of_mem _ (List.mem_append_left _ (List.mem_append_right _ h))
  have k10 : Cond.fieldLink RX5 10 "PeatRailway" "current" "LPeatRailway$State;" ∈ wsX5_waitsOf := by decide +kernel
  have k181 : Cond.fieldLink RX5 181 "PeatRailway$State" "waits" "[I" ∈ wsX5_waitsOf := by decide +kernel
  refine z_eq (ws' := SW κ Sa g ++ (RC ra (Sa 0) f9 h9 a9 b9 p9 o9 ++ [])) ?_ rfl rfl rfl rfl
  have hn1 := hv.n1
  have hn2 := hv.n2
  refine z_aload_n C dX5_waitsOf_0 0 rfl ?_
  refine z_iload_n C dX5_waitsOf_1 1 rfl ?_
  refine z_callV C (mX5_requireTrain_ok l D κ Sa _ ra f9 h9 a9 b9 p9 o9 σ M b hr hv (by omega)) gX5_waitsOf_X5_requireTrain rfl rfl rfl hdX5_requireTrain ⟨Nat.le_of_ble_eq_true rfl, Nat.le_of_ble_eq_true rfl⟩ 13 rfl rfl [] (fun _ => SW κ Sa g ++ (RC ra (Sa 0) f9 h9 a9 b9 p9 o9 ++ [])) (List.Perm.refl _) (fun _ => List.Perm.refl _) rfl (Nat.le_of_ble_eq_true rfl) dX5_waitsOf_2 ⟨Nat.zero_le _, Nat.zero_le _⟩ (fun _ _ => ?_)
  refine z_aload_n C dX5_waitsOf_5 0 rfl ?_
  refine z_get C hin5 13 rfl rfl 0 (by decide) k10 rfl dX5_waitsOf_6 ?_
  refine zs_get_waits C hin4 k181 dX5_waitsOf_9 ?_
  refine z_iload_n C dX5_waitsOf_12 1 rfl ?_
  refine zs_ald_waits C (x := σ (65 + 5 * b + 4)) (by omega) (hr.1.t15 (by omega)) dX5_waitsOf_13 ?_
  exact z_iret C hr9 hk (()) (rfl) (trivial) (List.Perm.of_eq rfl) dX5_waitsOf_14 (Nat.le_refl _) (Nat.le_refl _)
theorem hdX5_waitsOf : yX5_waitsOf.cls = RX5 ∧ yX5_waitsOf.cls ≠ "java/lang/invoke/MethodHandle" ∧ yX5_waitsOf.cls ≠ "java/lang/invoke/VarHandle" ∧ (parseMethodDescriptor yX5_waitsOf.desc).map (fun d => d.parameters.length) = some 1 := by decide +kernel
set_option maxRecDepth 100000 in
set_option maxHeartbeats 4000000 in
theorem mX5_waitsOf_no (l : Launch) (D : va_G) (κ : Nat → ClassId) (adK adV : Nat → Nat) (Sa : Nat → Nat) (g : Nat → Nat → Nat) (ra f9 h9 a9 b9 p9 o9 : Nat) (σ : Nat → Nat) (M : Nat) (x : Int32) (hls : l.stackTraces = false) (hr : Rep g σ) (hv : Inv M σ) (hx : isB (σ 2) x = false) : zX (aX adK adV) l yX5_waitsOf wsX5_waitsOf { frames := 7, cells := 1, slots := 6, locals := 103 } D (zTy κ) [.ref (ra), .int (x)] (SW κ Sa g ++ (RC ra (Sa 0) f9 h9 a9 b9 p9 o9)) eIB (S := Unit) (fun _ => True) (fun _ => SW κ Sa g ++ (RC ra (Sa 0) f9 h9 a9 b9 p9 o9)) 1 6 := by
  refine zX_of (cc := cX5_waitsOf) (maxL := 2) (rt := (some .int)) [(0, .ref (ra)), (1, .int (x))] (by decide +kernel) rfl (Nat.le_of_ble_eq_true rfl) rfl ?_
  intro p e s m args below meth c A C hk htab hX
  have C : zC p s m args c cX5_waitsOf 2 wsX5_waitsOf RX5 D (zTy κ) A := C
  have hin5 : ∀ w ∈ wsX50, w ∈ wsX5_waitsOf := fun w h => List.mem_cons_of_mem _ (List.mem_append_left _ (List.mem_append_left _ (List.mem_append_right _ h)))
  have hin4 : ∀ w ∈ wsX40, w ∈ wsX5_waitsOf := fun w h => List.mem_cons_of_mem _ (List.mem_append_left _ (List.mem_append_right _ h))
  have k10 : Cond.fieldLink RX5 10 "PeatRailway" "current" "LPeatRailway$State;" ∈ wsX5_waitsOf := by decide +kernel
  have k181 : Cond.fieldLink RX5 181 "PeatRailway$State" "waits" "[I" ∈ wsX5_waitsOf := by decide +kernel
  refine z_eq (ws' := SW κ Sa g ++ (RC ra (Sa 0) f9 h9 a9 b9 p9 o9 ++ [])) ?_ rfl rfl rfl rfl
  have hn1 := hv.n1
  have hn2 := hv.n2
  refine z_aload_n C dX5_waitsOf_0 0 rfl ?_
  refine z_iload_n C dX5_waitsOf_1 1 rfl ?_
  exact zx_callV C htab hk (aX_ok adK adV) hX (mX5_requireTrain_no l D κ adK adV Sa _ ra f9 h9 a9 b9 p9 o9 σ M (x) hls hr hv hx) gX5_waitsOf_X5_requireTrain rfl rfl rfl hdX5_requireTrain ⟨(Nat.le_of_ble_eq_true rfl), (Nat.le_of_ble_eq_true rfl)⟩ 13 rfl rfl [] (List.Perm.refl _) rfl (Nat.le_of_ble_eq_true rfl) dX5_waitsOf_2 ⟨(Nat.le_of_ble_eq_true rfl), (Nat.le_of_ble_eq_true rfl)⟩ (Nat.le_of_ble_eq_true rfl) (Nat.le_of_ble_eq_true rfl) (fun u _ => ⟨(), trivial, List.Perm.of_eq rfl⟩)
set_option maxRecDepth 100000 in
set_option maxHeartbeats 4000000 in
theorem mX5_speedOf_ok (l : Launch) (D : va_G) (κ : Nat → ClassId) (Sa : Nat → Nat) (g : Nat → Nat → Nat) (ra f9 h9 a9 b9 p9 o9 : Nat) (σ : Nat → Nat) (M : Nat) (b : Nat) (hr : Rep g σ) (hv : Inv M σ) (hb : b < σ 2) : zM l yX5_speedOf wsX5_speedOf { frames := 2, cells := 0, slots := 0, locals := 42 } D (zTy κ) [.ref ra, .int (nI b)] (SW κ Sa g ++ (RC ra (Sa 0) f9 h9 a9 b9 p9 o9)) (S := Unit) (fun _ => (some (.int (nI (spd σ b))))) (fun _ => True) (fun _ => SW κ Sa g ++ (RC ra (Sa 0) f9 h9 a9 b9 p9 o9)) 0 0 := by
  refine zM_of (cc := cX5_speedOf) (maxL := 2) (rt := (some .int)) [(0, .ref (ra)), (1, .int (nI b))] (by decide +kernel) rfl (Nat.le_of_ble_eq_true rfl) rfl ?_
  intro p e s m args below meth c A C hr9 hk hnm
  have C : zC p s m args c cX5_speedOf 2 wsX5_speedOf RX5 D (zTy κ) A := C
  have hin5 : ∀ w ∈ wsX50, w ∈ wsX5_speedOf := fun w h => List.mem_cons_of_mem _ (List.mem_append_left _ (List.mem_append_left _ (List.mem_append_right _ h)))
  have hin4 : ∀ w ∈ wsX40, w ∈ wsX5_speedOf := fun w h => List.mem_cons_of_mem _ (List.mem_append_left _ (List.mem_append_right _ h))
  have k10 : Cond.fieldLink RX5 10 "PeatRailway" "current" "LPeatRailway$State;" ∈ wsX5_speedOf := by decide +kernel
  refine z_eq (ws' := SW κ Sa g ++ (RC ra (Sa 0) f9 h9 a9 b9 p9 o9 ++ [])) ?_ rfl rfl rfl rfl
  have hn1 := hv.n1
  have hn2 := hv.n2
  refine z_aload_n C dX5_speedOf_0 0 rfl ?_
  refine z_iload_n C dX5_speedOf_1 1 rfl ?_
  refine z_callV C (mX5_requireTrain_ok l D κ Sa _ ra f9 h9 a9 b9 p9 o9 σ M b hr hv (by omega)) gX5_speedOf_X5_requireTrain rfl rfl rfl hdX5_requireTrain ⟨Nat.le_of_ble_eq_true rfl, Nat.le_of_ble_eq_true rfl⟩ 13 rfl rfl [] (fun _ => SW κ Sa g ++ (RC ra (Sa 0) f9 h9 a9 b9 p9 o9 ++ [])) (List.Perm.refl _) (fun _ => List.Perm.refl _) rfl (Nat.le_of_ble_eq_true rfl) dX5_speedOf_2 ⟨Nat.zero_le _, Nat.zero_le _⟩ (fun _ _ => ?_)
  refine z_aload_n C dX5_speedOf_5 0 rfl ?_
  refine z_get C hin5 13 rfl rfl 0 (by decide) k10 rfl dX5_speedOf_6 ?_
  refine z_iload_n C dX5_speedOf_9 1 rfl ?_
  refine zc_call C (mX4_speedNow l D κ Sa _ _ _ b hr hv (by omega)) gX5_speedOf_X4_speedNow rfl rfl rfl hdX4_speedNow ⟨Nat.le_of_ble_eq_true rfl, Nat.le_of_ble_eq_true rfl⟩ rfl (Nat.le_of_ble_eq_true rfl) dX5_speedOf_10 ⟨Nat.zero_le _, Nat.zero_le _⟩ ?_
  exact z_iret C hr9 hk (()) (rfl) (trivial) (List.Perm.of_eq rfl) dX5_speedOf_13 (Nat.le_refl _) (Nat.le_refl _)
theorem hdX5_speedOf : yX5_speedOf.cls = RX5 ∧ yX5_speedOf.cls ≠ "java/lang/invoke/MethodHandle" ∧ yX5_speedOf.cls ≠ "java/lang/invoke/VarHandle" ∧ (parseMethodDescriptor yX5_speedOf.desc).map (fun d => d.parameters.length) = some 1 := by decide +kernel
set_option maxRecDepth 100000 in
set_option maxHeartbeats 4000000 in
theorem mX5_speedOf_no (l : Launch) (D : va_G) (κ : Nat → ClassId) (adK adV : Nat → Nat) (Sa : Nat → Nat) (g : Nat → Nat → Nat) (ra f9 h9 a9 b9 p9 o9 : Nat) (σ : Nat → Nat) (M : Nat) (x : Int32) (hls : l.stackTraces = false) (hr : Rep g σ) (hv : Inv M σ) (hx : isB (σ 2) x = false) : zX (aX adK adV) l yX5_speedOf wsX5_speedOf { frames := 7, cells := 1, slots := 6, locals := 103 } D (zTy κ) [.ref (ra), .int (x)] (SW κ Sa g ++ (RC ra (Sa 0) f9 h9 a9 b9 p9 o9)) eIB (S := Unit) (fun _ => True) (fun _ => SW κ Sa g ++ (RC ra (Sa 0) f9 h9 a9 b9 p9 o9)) 1 6 := by
  refine zX_of (cc := cX5_speedOf) (maxL := 2) (rt := (some .int)) [(0, .ref (ra)), (1, .int (x))] (by decide +kernel) rfl (Nat.le_of_ble_eq_true rfl) rfl ?_
  intro p e s m args below meth c A C hk htab hX
  have C : zC p s m args c cX5_speedOf 2 wsX5_speedOf RX5 D (zTy κ) A := C
  have hin5 : ∀ w ∈ wsX50, w ∈ wsX5_speedOf := fun w h => List.mem_cons_of_mem _ (List.mem_append_left _ (List.mem_append_left _ (List.mem_append_right _ h)))
  have hin4 : ∀ w ∈ wsX40, w ∈ wsX5_speedOf := fun w h => List.mem_cons_of_mem _ (List.mem_append_left _ (List.mem_append_right _ h))
  have k10 : Cond.fieldLink RX5 10 "PeatRailway" "current" "LPeatRailway$State;" ∈ wsX5_speedOf := by decide +kernel
  refine z_eq (ws' := SW κ Sa g ++ (RC ra (Sa 0) f9 h9 a9 b9 p9 o9 ++ [])) ?_ rfl rfl rfl rfl
  have hn1 := hv.n1
  have hn2 := hv.n2
  refine z_aload_n C dX5_speedOf_0 0 rfl ?_
  refine z_iload_n C dX5_speedOf_1 1 rfl ?_
  exact zx_callV C htab hk (aX_ok adK adV) hX (mX5_requireTrain_no l D κ adK adV Sa _ ra f9 h9 a9 b9 p9 o9 σ M (x) hls hr hv hx) gX5_speedOf_X5_requireTrain rfl rfl rfl hdX5_requireTrain ⟨(Nat.le_of_ble_eq_true rfl), (Nat.le_of_ble_eq_true rfl)⟩ 13 rfl rfl [] (List.Perm.refl _) rfl (Nat.le_of_ble_eq_true rfl) dX5_speedOf_2 ⟨(Nat.le_of_ble_eq_true rfl), (Nat.le_of_ble_eq_true rfl)⟩ (Nat.le_of_ble_eq_true rfl) (Nat.le_of_ble_eq_true rfl) (fun u _ => ⟨(), trivial, List.Perm.of_eq rfl⟩)
set_option maxRecDepth 100000 in
set_option maxHeartbeats 4000000 in
theorem mX5_canEnter_ok (l : Launch) (D : va_G) (κ : Nat → ClassId) (Sa : Nat → Nat) (g : Nat → Nat → Nat) (ra f9 h9 a9 b9 p9 o9 : Nat) (σ : Nat → Nat) (M : Nat) (b : Nat) (hr : Rep g σ) (hv : Inv M σ) (hb : b < σ 2) : zM l yX5_canEnter wsX5_canEnter { frames := 2, cells := 0, slots := 0, locals := 42 } D (zTy κ) [.ref ra, .int (nI b)] (SW κ Sa g ++ (RC ra (Sa 0) f9 h9 a9 b9 p9 o9)) (S := Unit) (fun _ => (some (.int (nI (mayE σ b).toNat)))) (fun _ => True) (fun _ => SW κ Sa g ++ (RC ra (Sa 0) f9 h9 a9 b9 p9 o9)) 0 0 := by
  refine zM_of (cc := cX5_canEnter) (maxL := 2) (rt := (some .boolean)) [(0, .ref (ra)), (1, .int (nI b))] (by decide +kernel) rfl (Nat.le_of_ble_eq_true rfl) rfl ?_
  intro p e s m args below meth c A C hr9 hk hnm
  have C : zC p s m args c cX5_canEnter 2 wsX5_canEnter RX5 D (zTy κ) A := C
  have hin5 : ∀ w ∈ wsX50, w ∈ wsX5_canEnter := fun w h => List.mem_cons_of_mem _ (List.mem_append_left _ (List.mem_append_left _ (List.mem_append_right _ h)))
  have hin4 : ∀ w ∈ wsX40, w ∈ wsX5_canEnter := fun w h => List.mem_cons_of_mem _ (List.mem_append_left _ (List.mem_append_right _ h))
  have k10 : Cond.fieldLink RX5 10 "PeatRailway" "current" "LPeatRailway$State;" ∈ wsX5_canEnter := by decide +kernel
  have k166 : Cond.fieldLink RX5 166 "PeatRailway$State" "place" "[I" ∈ wsX5_canEnter := by decide +kernel
  refine z_eq (ws' := SW κ Sa g ++ (RC ra (Sa 0) f9 h9 a9 b9 p9 o9 ++ [])) ?_ rfl rfl rfl rfl
  have hn1 := hv.n1
  have hn2 := hv.n2
  have ht9 := hv.trn hb
  have ha9 := aft_lt (σ := σ) (b := σ (65 + 5 * b + 2)) (by omega)
  refine z_aload_n C dX5_canEnter_0 0 rfl ?_
  refine z_iload_n C dX5_canEnter_1 1 rfl ?_
  refine z_callV C (mX5_requireTrain_ok l D κ Sa _ ra f9 h9 a9 b9 p9 o9 σ M b hr hv (by omega)) gX5_canEnter_X5_requireTrain rfl rfl rfl hdX5_requireTrain ⟨Nat.le_of_ble_eq_true rfl, Nat.le_of_ble_eq_true rfl⟩ 13 rfl rfl [] (fun _ => SW κ Sa g ++ (RC ra (Sa 0) f9 h9 a9 b9 p9 o9 ++ [])) (List.Perm.refl _) (fun _ => List.Perm.refl _) rfl (Nat.le_of_ble_eq_true rfl) dX5_canEnter_2 ⟨Nat.zero_le _, Nat.zero_le _⟩ (fun _ _ => ?_)
  refine z_aload_n C dX5_canEnter_5 0 rfl ?_
  refine z_get C hin5 13 rfl rfl 0 (by decide) k10 rfl dX5_canEnter_6 ?_
  refine z_aload_n C dX5_canEnter_9 0 rfl ?_
  refine z_get C hin5 13 rfl rfl 0 (by decide) k10 rfl dX5_canEnter_10 ?_
  refine z_aload_n C dX5_canEnter_13 0 rfl ?_
  refine z_get C hin5 13 rfl rfl 0 (by decide) k10 rfl dX5_canEnter_14 ?_
  refine zs_get_place C hin4 k166 dX5_canEnter_17 ?_
  refine z_iload_n C dX5_canEnter_20 1 rfl ?_
  refine zs_ald_place C (x := σ (65 + 5 * b + 2)) (by omega) (hr.1.t11 (by omega)) dX5_canEnter_21 ?_
  refine zc_call C (mX4_nextBlock l D κ Sa _ _ _ (σ (65 + 5 * b + 2)) hr hv (by omega)) gX5_canEnter_X4_nextBlock rfl rfl rfl hdX4_nextBlock ⟨Nat.le_of_ble_eq_true rfl, Nat.le_of_ble_eq_true rfl⟩ rfl (Nat.le_of_ble_eq_true rfl) dX5_canEnter_22 ⟨Nat.zero_le _, Nat.zero_le _⟩ ?_
  refine zc_call C (mX4_opensTo l D κ Sa _ _ _ (aft σ (σ (65 + 5 * b + 2))) hr hv (by omega)) gX5_canEnter_X4_opensTo rfl rfl rfl hdX4_opensTo ⟨Nat.le_of_ble_eq_true rfl, Nat.le_of_ble_eq_true rfl⟩ rfl (Nat.le_of_ble_eq_true rfl) dX5_canEnter_25 ⟨Nat.zero_le _, Nat.zero_le _⟩ ?_
  exact z_zret C hr9 hk (zb_nar (if σ (5 + 6 * (aft σ (σ (65 + 5 * b + 2))) + 4) = 1 then !occ σ (aft σ (σ (65 + 5 * b + 2))) else false)) (()) (rfl) (trivial) (List.Perm.of_eq rfl) dX5_canEnter_28 (Nat.le_refl _) (Nat.le_refl _)
theorem hdX5_canEnter : yX5_canEnter.cls = RX5 ∧ yX5_canEnter.cls ≠ "java/lang/invoke/MethodHandle" ∧ yX5_canEnter.cls ≠ "java/lang/invoke/VarHandle" ∧ (parseMethodDescriptor yX5_canEnter.desc).map (fun d => d.parameters.length) = some 1 := by decide +kernel
set_option maxRecDepth 100000 in
set_option maxHeartbeats 4000000 in
theorem mX5_canEnter_no (l : Launch) (D : va_G) (κ : Nat → ClassId) (adK adV : Nat → Nat) (Sa : Nat → Nat) (g : Nat → Nat → Nat) (ra f9 h9 a9 b9 p9 o9 : Nat) (σ : Nat → Nat) (M : Nat) (x : Int32) (hls : l.stackTraces = false) (hr : Rep g σ) (hv : Inv M σ) (hx : isB (σ 2) x = false) : zX (aX adK adV) l yX5_canEnter wsX5_canEnter { frames := 7, cells := 1, slots := 6, locals := 103 } D (zTy κ) [.ref (ra), .int (x)] (SW κ Sa g ++ (RC ra (Sa 0) f9 h9 a9 b9 p9 o9)) eIB (S := Unit) (fun _ => True) (fun _ => SW κ Sa g ++ (RC ra (Sa 0) f9 h9 a9 b9 p9 o9)) 1 6 := by
  refine zX_of (cc := cX5_canEnter) (maxL := 2) (rt := (some .boolean)) [(0, .ref (ra)), (1, .int (x))] (by decide +kernel) rfl (Nat.le_of_ble_eq_true rfl) rfl ?_
  intro p e s m args below meth c A C hk htab hX
  have C : zC p s m args c cX5_canEnter 2 wsX5_canEnter RX5 D (zTy κ) A := C
  have hin5 : ∀ w ∈ wsX50, w ∈ wsX5_canEnter := fun w h => List.mem_cons_of_mem _ (List.mem_append_left _ (List.mem_append_left _ (List.mem_append_right _ h)))
  have hin4 : ∀ w ∈ wsX40, w ∈ wsX5_canEnter := fun w h => List.mem_cons_of_mem _ (List.mem_append_left _ (List.mem_append_right _ h))
  have k10 : Cond.fieldLink RX5 10 "PeatRailway" "current" "LPeatRailway$State;" ∈ wsX5_canEnter := by decide +kernel
  have k166 : Cond.fieldLink RX5 166 "PeatRailway$State" "place" "[I" ∈ wsX5_canEnter := by decide +kernel
  refine z_eq (ws' := SW κ Sa g ++ (RC ra (Sa 0) f9 h9 a9 b9 p9 o9 ++ [])) ?_ rfl rfl rfl rfl
  have hn1 := hv.n1
  have hn2 := hv.n2
  refine z_aload_n C dX5_canEnter_0 0 rfl ?_
  refine z_iload_n C dX5_canEnter_1 1 rfl ?_
  exact zx_callV C htab hk (aX_ok adK adV) hX (mX5_requireTrain_no l D κ adK adV Sa _ ra f9 h9 a9 b9 p9 o9 σ M (x) hls hr hv hx) gX5_canEnter_X5_requireTrain rfl rfl rfl hdX5_requireTrain ⟨(Nat.le_of_ble_eq_true rfl), (Nat.le_of_ble_eq_true rfl)⟩ 13 rfl rfl [] (List.Perm.refl _) rfl (Nat.le_of_ble_eq_true rfl) dX5_canEnter_2 ⟨(Nat.le_of_ble_eq_true rfl), (Nat.le_of_ble_eq_true rfl)⟩ (Nat.le_of_ble_eq_true rfl) (Nat.le_of_ble_eq_true rfl) (fun u _ => ⟨(), trivial, List.Perm.of_eq rfl⟩)
set_option maxRecDepth 100000 in
set_option maxHeartbeats 4000000 in
theorem mX5_tick (l : Launch) (D : va_G) (κ : Nat → ClassId) (Sa : Nat → Nat) (g : Nat → Nat → Nat) (ra f9 h9 a9 b9 p9 o9 : Nat) (σ : Nat → Nat) (M : Nat)  (hr : Rep g σ) (hv : Inv M σ) : zM l yX5_tick wsX5_tick { frames := 0, cells := 0, slots := 0, locals := 0 } D (zTy κ) [.ref ra] (SW κ Sa g ++ (RC ra (Sa 0) f9 h9 a9 b9 p9 o9)) (S := Unit) (fun _ => (some (.int (nI (σ 0))))) (fun _ => True) (fun _ => SW κ Sa g ++ (RC ra (Sa 0) f9 h9 a9 b9 p9 o9)) 0 0 := by
  refine zM_of (cc := cX5_tick) (maxL := 1) (rt := (some .int)) [(0, .ref (ra))] (by decide +kernel) rfl (Nat.le_of_ble_eq_true rfl) rfl ?_
  intro p e s m args below meth c A C hr9 hk hnm
  have C : zC p s m args c cX5_tick 1 wsX5_tick RX5 D (zTy κ) A := C
  have hin5 : ∀ w ∈ wsX50, w ∈ wsX5_tick := fun w h => List.mem_cons_of_mem _ (List.mem_append_left _ (List.mem_append_right _ h))
  have hin4 : ∀ w ∈ wsX40, w ∈ wsX5_tick := fun w h => List.mem_cons_of_mem _ (List.mem_append_right _ h)
  have k10 : Cond.fieldLink RX5 10 "PeatRailway" "current" "LPeatRailway$State;" ∈ wsX5_tick := by decide +kernel
  have k116 : Cond.fieldLink RX5 116 "PeatRailway$State" "tick" "I" ∈ wsX5_tick := by decide +kernel
  refine z_eq (ws' := SW κ Sa g ++ (RC ra (Sa 0) f9 h9 a9 b9 p9 o9 ++ [])) ?_ rfl rfl rfl rfl
  have hn1 := hv.n1
  have hn2 := hv.n2
  refine z_aload_n C dX5_tick_0 0 rfl ?_
  refine z_get C hin5 13 rfl rfl 0 (by decide) k10 rfl dX5_tick_1 ?_
  refine zs_get_tick C hin4 (x := σ 0) k116 dX5_tick_4 hr.1.s0 ?_
  exact z_iret C hr9 hk (()) (rfl) (trivial) (List.Perm.of_eq rfl) dX5_tick_7 (Nat.le_refl _) (Nat.le_refl _)
theorem hdX5_tick : yX5_tick.cls = RX5 ∧ yX5_tick.cls ≠ "java/lang/invoke/MethodHandle" ∧ yX5_tick.cls ≠ "java/lang/invoke/VarHandle" ∧ (parseMethodDescriptor yX5_tick.desc).map (fun d => d.parameters.length) = some 0 := by decide +kernel
set_option maxRecDepth 100000 in
set_option maxHeartbeats 4000000 in
theorem mX5_blockCount (l : Launch) (D : va_G) (κ : Nat → ClassId) (Sa : Nat → Nat) (g : Nat → Nat → Nat) (ra f9 h9 a9 b9 p9 o9 : Nat) (σ : Nat → Nat) (M : Nat)  (hr : Rep g σ) (hv : Inv M σ) : zM l yX5_blockCount wsX5_blockCount { frames := 0, cells := 0, slots := 0, locals := 0 } D (zTy κ) [.ref ra] (SW κ Sa g ++ (RC ra (Sa 0) f9 h9 a9 b9 p9 o9)) (S := Unit) (fun _ => (some (.int (nI (σ 1))))) (fun _ => True) (fun _ => SW κ Sa g ++ (RC ra (Sa 0) f9 h9 a9 b9 p9 o9)) 0 0 := by
  refine zM_of (cc := cX5_blockCount) (maxL := 1) (rt := (some .int)) [(0, .ref (ra))] (by decide +kernel) rfl (Nat.le_of_ble_eq_true rfl) rfl ?_
  intro p e s m args below meth c A C hr9 hk hnm
  have C : zC p s m args c cX5_blockCount 1 wsX5_blockCount RX5 D (zTy κ) A := C
  have hin5 : ∀ w ∈ wsX50, w ∈ wsX5_blockCount := fun w h => List.mem_cons_of_mem _ (List.mem_append_left _ (List.mem_append_right _ h))
  have hin4 : ∀ w ∈ wsX40, w ∈ wsX5_blockCount := fun w h => List.mem_cons_of_mem _ (List.mem_append_right _ h)
  have k10 : Cond.fieldLink RX5 10 "PeatRailway" "current" "LPeatRailway$State;" ∈ wsX5_blockCount := by decide +kernel
  have k107 : Cond.fieldLink RX5 107 "PeatRailway$State" "blockCount" "I" ∈ wsX5_blockCount := by decide +kernel
  refine z_eq (ws' := SW κ Sa g ++ (RC ra (Sa 0) f9 h9 a9 b9 p9 o9 ++ [])) ?_ rfl rfl rfl rfl
  have hn1 := hv.n1
  have hn2 := hv.n2
  refine z_aload_n C dX5_blockCount_0 0 rfl ?_
  refine z_get C hin5 13 rfl rfl 0 (by decide) k10 rfl dX5_blockCount_1 ?_
  refine zs_get_blockCount C hin4 (x := σ 1) k107 dX5_blockCount_4 hr.1.s1 ?_
  exact z_iret C hr9 hk (()) (rfl) (trivial) (List.Perm.of_eq rfl) dX5_blockCount_7 (Nat.le_refl _) (Nat.le_refl _)
theorem hdX5_blockCount : yX5_blockCount.cls = RX5 ∧ yX5_blockCount.cls ≠ "java/lang/invoke/MethodHandle" ∧ yX5_blockCount.cls ≠ "java/lang/invoke/VarHandle" ∧ (parseMethodDescriptor yX5_blockCount.desc).map (fun d => d.parameters.length) = some 0 := by decide +kernel
set_option maxRecDepth 100000 in
set_option maxHeartbeats 4000000 in
theorem mX5_trainCount (l : Launch) (D : va_G) (κ : Nat → ClassId) (Sa : Nat → Nat) (g : Nat → Nat → Nat) (ra f9 h9 a9 b9 p9 o9 : Nat) (σ : Nat → Nat) (M : Nat)  (hr : Rep g σ) (hv : Inv M σ) : zM l yX5_trainCount wsX5_trainCount { frames := 0, cells := 0, slots := 0, locals := 0 } D (zTy κ) [.ref ra] (SW κ Sa g ++ (RC ra (Sa 0) f9 h9 a9 b9 p9 o9)) (S := Unit) (fun _ => (some (.int (nI (σ 2))))) (fun _ => True) (fun _ => SW κ Sa g ++ (RC ra (Sa 0) f9 h9 a9 b9 p9 o9)) 0 0 := by
  refine zM_of (cc := cX5_trainCount) (maxL := 1) (rt := (some .int)) [(0, .ref (ra))] (by decide +kernel) rfl (Nat.le_of_ble_eq_true rfl) rfl ?_
  intro p e s m args below meth c A C hr9 hk hnm
  have C : zC p s m args c cX5_trainCount 1 wsX5_trainCount RX5 D (zTy κ) A := C
  have hin5 : ∀ w ∈ wsX50, w ∈ wsX5_trainCount := fun w h => List.mem_cons_of_mem _ (List.mem_append_left _ (List.mem_append_right _ h))
  have hin4 : ∀ w ∈ wsX40, w ∈ wsX5_trainCount := fun w h => List.mem_cons_of_mem _ (List.mem_append_right _ h)
  have k10 : Cond.fieldLink RX5 10 "PeatRailway" "current" "LPeatRailway$State;" ∈ wsX5_trainCount := by decide +kernel
  have k145 : Cond.fieldLink RX5 145 "PeatRailway$State" "trainCount" "I" ∈ wsX5_trainCount := by decide +kernel
  refine z_eq (ws' := SW κ Sa g ++ (RC ra (Sa 0) f9 h9 a9 b9 p9 o9 ++ [])) ?_ rfl rfl rfl rfl
  have hn1 := hv.n1
  have hn2 := hv.n2
  refine z_aload_n C dX5_trainCount_0 0 rfl ?_
  refine z_get C hin5 13 rfl rfl 0 (by decide) k10 rfl dX5_trainCount_1 ?_
  refine zs_get_trainCount C hin4 (x := σ 2) k145 dX5_trainCount_4 hr.1.s2 ?_
  exact z_iret C hr9 hk (()) (rfl) (trivial) (List.Perm.of_eq rfl) dX5_trainCount_7 (Nat.le_refl _) (Nat.le_refl _)
theorem hdX5_trainCount : yX5_trainCount.cls = RX5 ∧ yX5_trainCount.cls ≠ "java/lang/invoke/MethodHandle" ∧ yX5_trainCount.cls ≠ "java/lang/invoke/VarHandle" ∧ (parseMethodDescriptor yX5_trainCount.desc).map (fun d => d.parameters.length) = some 0 := by decide +kernel
set_option maxRecDepth 100000 in
set_option maxHeartbeats 4000000 in
theorem mX5_removedWagons (l : Launch) (D : va_G) (κ : Nat → ClassId) (Sa : Nat → Nat) (g : Nat → Nat → Nat) (ra f9 h9 a9 b9 p9 o9 : Nat) (σ : Nat → Nat) (M : Nat)  (hr : Rep g σ) (hv : Inv M σ) : zM l yX5_removedWagons wsX5_removedWagons { frames := 0, cells := 0, slots := 0, locals := 0 } D (zTy κ) [.ref ra] (SW κ Sa g ++ (RC ra (Sa 0) f9 h9 a9 b9 p9 o9)) (S := Unit) (fun _ => (some (.int (nI (σ 3))))) (fun _ => True) (fun _ => SW κ Sa g ++ (RC ra (Sa 0) f9 h9 a9 b9 p9 o9)) 0 0 := by
  refine zM_of (cc := cX5_removedWagons) (maxL := 1) (rt := (some .int)) [(0, .ref (ra))] (by decide +kernel) rfl (Nat.le_of_ble_eq_true rfl) rfl ?_
  intro p e s m args below meth c A C hr9 hk hnm
  have C : zC p s m args c cX5_removedWagons 1 wsX5_removedWagons RX5 D (zTy κ) A := C
  have hin5 : ∀ w ∈ wsX50, w ∈ wsX5_removedWagons := fun w h => List.mem_cons_of_mem _ (List.mem_append_left _ (List.mem_append_right _ h))
  have hin4 : ∀ w ∈ wsX40, w ∈ wsX5_removedWagons := fun w h => List.mem_cons_of_mem _ (List.mem_append_right _ h)
  have k10 : Cond.fieldLink RX5 10 "PeatRailway" "current" "LPeatRailway$State;" ∈ wsX5_removedWagons := by decide +kernel
  have k201 : Cond.fieldLink RX5 201 "PeatRailway$State" "removed" "I" ∈ wsX5_removedWagons := by decide +kernel
  refine z_eq (ws' := SW κ Sa g ++ (RC ra (Sa 0) f9 h9 a9 b9 p9 o9 ++ [])) ?_ rfl rfl rfl rfl
  have hn1 := hv.n1
  have hn2 := hv.n2
  refine z_aload_n C dX5_removedWagons_0 0 rfl ?_
  refine z_get C hin5 13 rfl rfl 0 (by decide) k10 rfl dX5_removedWagons_1 ?_
  refine zs_get_removed C hin4 (x := σ 3) k201 dX5_removedWagons_4 hr.1.s3 ?_
  exact z_iret C hr9 hk (()) (rfl) (trivial) (List.Perm.of_eq rfl) dX5_removedWagons_7 (Nat.le_refl _) (Nat.le_refl _)
theorem hdX5_removedWagons : yX5_removedWagons.cls = RX5 ∧ yX5_removedWagons.cls ≠ "java/lang/invoke/MethodHandle" ∧ yX5_removedWagons.cls ≠ "java/lang/invoke/VarHandle" ∧ (parseMethodDescriptor yX5_removedWagons.desc).map (fun d => d.parameters.length) = some 0 := by decide +kernel
set_option maxRecDepth 100000 in
set_option maxHeartbeats 4000000 in
theorem mX5_totalWagons (l : Launch) (D : va_G) (κ : Nat → ClassId) (Sa : Nat → Nat) (g : Nat → Nat → Nat) (ra f9 h9 a9 b9 p9 o9 : Nat) (σ : Nat → Nat) (M : Nat)  (hr : Rep g σ) (hv : Inv M σ) : zM l yX5_totalWagons wsX5_totalWagons { frames := 1, cells := 0, slots := 0, locals := 22 } D (zTy κ) [.ref ra] (SW κ Sa g ++ (RC ra (Sa 0) f9 h9 a9 b9 p9 o9)) (S := Unit) (fun _ => (some (.int (nI (sumL (fun t => σ (65 + 5 * t + 0)) (σ 2)))))) (fun _ => True) (fun _ => SW κ Sa g ++ (RC ra (Sa 0) f9 h9 a9 b9 p9 o9)) 0 0 := by
  refine zM_of (cc := cX5_totalWagons) (maxL := 1) (rt := (some .int)) [(0, .ref (ra))] (by decide +kernel) rfl (Nat.le_of_ble_eq_true rfl) rfl ?_
  intro p e s m args below meth c A C hr9 hk hnm
  have C : zC p s m args c cX5_totalWagons 1 wsX5_totalWagons RX5 D (zTy κ) A := C
  have hin5 : ∀ w ∈ wsX50, w ∈ wsX5_totalWagons := fun w h => List.mem_cons_of_mem _ (List.mem_append_left _ (List.mem_append_right _ h))
  have hin4 : ∀ w ∈ wsX40, w ∈ wsX5_totalWagons := fun w h => List.mem_cons_of_mem _ (List.mem_append_right _ h)
  have k10 : Cond.fieldLink RX5 10 "PeatRailway" "current" "LPeatRailway$State;" ∈ wsX5_totalWagons := by decide +kernel
  refine z_eq (ws' := SW κ Sa g ++ (RC ra (Sa 0) f9 h9 a9 b9 p9 o9 ++ [])) ?_ rfl rfl rfl rfl
  have hn1 := hv.n1
  have hn2 := hv.n2
  refine z_aload_n C dX5_totalWagons_0 0 rfl ?_
  refine z_get C hin5 13 rfl rfl 0 (by decide) k10 rfl dX5_totalWagons_1 ?_
  refine zc_call C (mX4_sumOfWagons l D κ Sa _ _ _  hr hv ) gX5_totalWagons_X4_sumOfWagons rfl rfl rfl hdX4_sumOfWagons ⟨Nat.le_of_ble_eq_true rfl, Nat.le_of_ble_eq_true rfl⟩ rfl (Nat.le_of_ble_eq_true rfl) dX5_totalWagons_4 ⟨Nat.zero_le _, Nat.zero_le _⟩ ?_
  exact z_iret C hr9 hk (()) (rfl) (trivial) (List.Perm.of_eq rfl) dX5_totalWagons_7 (Nat.le_refl _) (Nat.le_refl _)
theorem hdX5_totalWagons : yX5_totalWagons.cls = RX5 ∧ yX5_totalWagons.cls ≠ "java/lang/invoke/MethodHandle" ∧ yX5_totalWagons.cls ≠ "java/lang/invoke/VarHandle" ∧ (parseMethodDescriptor yX5_totalWagons.desc).map (fun d => d.parameters.length) = some 0 := by decide +kernel
set_option maxRecDepth 100000 in
set_option maxHeartbeats 4000000 in
theorem mX5_lostWagons (l : Launch) (D : va_G) (κ : Nat → ClassId) (Sa : Nat → Nat) (g : Nat → Nat → Nat) (ra f9 h9 a9 b9 p9 o9 : Nat) (σ : Nat → Nat) (M : Nat)  (hr : Rep g σ) (hv : Inv M σ) : zM l yX5_lostWagons wsX5_lostWagons { frames := 1, cells := 0, slots := 0, locals := 22 } D (zTy κ) [.ref ra] (SW κ Sa g ++ (RC ra (Sa 0) f9 h9 a9 b9 p9 o9)) (S := Unit) (fun _ => (some (.int (nI (sumL (fun b => σ (5 + 6 * b + 5)) (σ 1)))))) (fun _ => True) (fun _ => SW κ Sa g ++ (RC ra (Sa 0) f9 h9 a9 b9 p9 o9)) 0 0 := by
  refine zM_of (cc := cX5_lostWagons) (maxL := 1) (rt := (some .int)) [(0, .ref (ra))] (by decide +kernel) rfl (Nat.le_of_ble_eq_true rfl) rfl ?_
  intro p e s m args below meth c A C hr9 hk hnm
  have C : zC p s m args c cX5_lostWagons 1 wsX5_lostWagons RX5 D (zTy κ) A := C
  have hin5 : ∀ w ∈ wsX50, w ∈ wsX5_lostWagons := fun w h => List.mem_cons_of_mem _ (List.mem_append_left _ (List.mem_append_right _ h))
  have hin4 : ∀ w ∈ wsX40, w ∈ wsX5_lostWagons := fun w h => List.mem_cons_of_mem _ (List.mem_append_right _ h)
  have k10 : Cond.fieldLink RX5 10 "PeatRailway" "current" "LPeatRailway$State;" ∈ wsX5_lostWagons := by decide +kernel
  refine z_eq (ws' := SW κ Sa g ++ (RC ra (Sa 0) f9 h9 a9 b9 p9 o9 ++ [])) ?_ rfl rfl rfl rfl
  have hn1 := hv.n1
  have hn2 := hv.n2
  refine z_aload_n C dX5_lostWagons_0 0 rfl ?_
  refine z_get C hin5 13 rfl rfl 0 (by decide) k10 rfl dX5_lostWagons_1 ?_
  refine zc_call C (mX4_sumOfLost l D κ Sa _ _ _  hr hv ) gX5_lostWagons_X4_sumOfLost rfl rfl rfl hdX4_sumOfLost ⟨Nat.le_of_ble_eq_true rfl, Nat.le_of_ble_eq_true rfl⟩ rfl (Nat.le_of_ble_eq_true rfl) dX5_lostWagons_4 ⟨Nat.zero_le _, Nat.zero_le _⟩ ?_
  exact z_iret C hr9 hk (()) (rfl) (trivial) (List.Perm.of_eq rfl) dX5_lostWagons_7 (Nat.le_refl _) (Nat.le_refl _)
theorem hdX5_lostWagons : yX5_lostWagons.cls = RX5 ∧ yX5_lostWagons.cls ≠ "java/lang/invoke/MethodHandle" ∧ yX5_lostWagons.cls ≠ "java/lang/invoke/VarHandle" ∧ (parseMethodDescriptor yX5_lostWagons.desc).map (fun d => d.parameters.length) = some 0 := by decide +kernel
end X1
