section LH
set_option maxRecDepth 100000 in
set_option maxHeartbeats 4000000 in
theorem mL_limitOf_ok (l : Launch) (D : va_G) (κ : Nat → ClassId) (Sa : Nat → Nat) (g : Nat → Nat → Nat) (ra f9 h9 a9 b9 p9 o9 : Nat) (σ : Nat → Nat) (M : Nat) (b : Nat) (hr : Rep g σ) (hv : Inv M σ) (hb : b < σ 1) (adK adV : Nat → Nat) (oa : Nat) (fo : Nat → Int64) : zH (aX adK adV) l yL_limitOf wsL_limitOf { frames := 2, cells := 0, slots := 0, locals := 42 } D (zTy κ) [.ref ra, .int (nI b), .ref oa] (OUTW κ oa fo ++ (SW κ Sa g ++ (RC ra (Sa 0) f9 h9 a9 b9 p9 o9))) (S := Unit) (fun _ => some (.int (nI 0))) (fun _ => True) (fun _ => OUTW κ oa (vp_updL fo 0 (((nI (σ (5 + 6 * b + 2)))).toInt64)) ++ (SW κ Sa g ++ (RC ra (Sa 0) f9 h9 a9 b9 p9 o9))) 0 0 := by
  refine zH_of (cc := cL_limitOf) (maxL := 4) (rt := some .int) (hh := [(0, 9, 12, 19)]) [(0, .ref (ra)), (1, .int (nI b)), (2, .ref (oa))] (by decide +kernel) rfl (Nat.le_of_ble_eq_true rfl) rfl ?_
  intro p e s m args below meth c A C hr9 hk htab hX
  have C : zC p s m args c cL_limitOf 4 wsL_limitOf RL D (zTy κ) A := C
  refine z_aload_n C dL_limitOf_0 2 rfl ?_
  refine z_iconst (v := nI 0) C dL_limitOf_1 (by decide) ?_
  refine z_aload_n C dL_limitOf_2 0 rfl ?_
  refine z_iload_n C dL_limitOf_3 1 rfl ?_
  refine z_callV C (mX5_limitOf_ok l D κ Sa g ra f9 h9 a9 b9 p9 o9 σ M b hr hv hb) gL_limitOf_X5_limitOf rfl rfl rfl hdX5_limitOf ⟨(Nat.le_of_ble_eq_true rfl), (Nat.le_of_ble_eq_true rfl)⟩ 13 rfl rfl (OUTW κ oa fo) (fun _ => OUTW κ oa fo ++ (SW κ Sa g ++ (RC ra (Sa 0) f9 h9 a9 b9 p9 o9))) List.perm_append_comm (fun _ => List.perm_append_comm) rfl (Nat.le_of_ble_eq_true rfl) dL_limitOf_4 ⟨(Nat.le_of_ble_eq_true rfl), (Nat.le_of_ble_eq_true rfl)⟩ (fun u hu => ?_)
  refine z_i2l C dL_limitOf_7 rfl ?_
  refine z_last C 0 4 rfl rfl (i := 0) (by decide) (by decide) dL_limitOf_8 (OUTW κ oa (vp_updL fo 0 (((nI (σ (5 + 6 * b + 2)))).toInt64)) ++ (SW κ Sa g ++ (RC ra (Sa 0) f9 h9 a9 b9 p9 o9))) rfl ?_
  refine z_goto (tgt := 15) C dL_limitOf_9 (by decide) ?_
  refine z_iconst (v := nI 0) C dL_limitOf_15 (by decide) ?_
  exact zh_iret C hr9 hk u rfl hu (List.Perm.of_eq rfl) dL_limitOf_16 (Nat.le_of_ble_eq_true rfl) (Nat.le_of_ble_eq_true rfl)
theorem hdL_limitOf : yL_limitOf.cls ≠ "java/lang/invoke/MethodHandle" ∧ yL_limitOf.cls ≠ "java/lang/invoke/VarHandle" ∧ (parseMethodDescriptor yL_limitOf.desc).map (fun d => d.parameters.length) = some 3 := by decide +kernel
set_option maxRecDepth 100000 in
set_option maxHeartbeats 4000000 in
theorem mL_limitOf_no (l : Launch) (D : va_G) (κ : Nat → ClassId) (adK adV : Nat → Nat) (Sa : Nat → Nat) (g : Nat → Nat → Nat) (ra f9 h9 a9 b9 p9 o9 : Nat) (σ : Nat → Nat) (M : Nat) (x : Int32) (hls : l.stackTraces = false) (hr : Rep g σ) (hv : Inv M σ) (hx : isB (σ 1) x = false) (oa : Nat) (fo : Nat → Int64) : zH (aX adK adV) l yL_limitOf wsL_limitOf { frames := 8, cells := 1, slots := 6, locals := 124 } D (zTy κ) [.ref (ra), .int (x), .ref oa] (OUTW κ oa fo ++ (SW κ Sa g ++ (RC ra (Sa 0) f9 h9 a9 b9 p9 o9))) (S := Unit) (fun _ => some (.int (nI 1))) (fun _ => True) (fun _ => OUTW κ oa fo ++ (SW κ Sa g ++ (RC ra (Sa 0) f9 h9 a9 b9 p9 o9))) 1 6 := by
  refine zH_of (cc := cL_limitOf) (maxL := 4) (rt := some .int) (hh := [(0, 9, 12, 19)]) [(0, .ref (ra)), (1, .int (x)), (2, .ref (oa))] (by decide +kernel) rfl (Nat.le_of_ble_eq_true rfl) rfl ?_
  intro p e s m args below meth c A C hr9 hk htab hX
  have C : zC p s m args c cL_limitOf 4 wsL_limitOf RL D (zTy κ) A := C
  refine z_aload_n C dL_limitOf_0 2 rfl ?_
  refine z_iconst (v := nI 0) C dL_limitOf_1 (by decide) ?_
  refine z_aload_n C dL_limitOf_2 0 rfl ?_
  refine z_iload_n C dL_limitOf_3 1 rfl ?_
  refine zx_catchV C (aX_ok adK adV) hX (mX5_limitOf_no l D κ adK adV Sa g ra f9 h9 a9 b9 p9 o9 σ M x hls hr hv hx) gL_limitOf_X5_limitOf rfl rfl rfl hdX5_limitOf ⟨(Nat.le_of_ble_eq_true rfl), (Nat.le_of_ble_eq_true rfl)⟩ 13 rfl rfl (OUTW κ oa fo) (fun _ => OUTW κ oa fo ++ (SW κ Sa g ++ (RC ra (Sa 0) f9 h9 a9 b9 p9 o9))) List.perm_append_comm (fun _ => List.perm_append_comm) rfl (Nat.le_of_ble_eq_true rfl) dL_limitOf_4 ⟨(Nat.le_of_ble_eq_true rfl), (Nat.le_of_ble_eq_true rfl)⟩ [] ⟨0, 9, 12, 19⟩ [] htab (fun z hz => absurd hz List.not_mem_nil) (by decide) (by decide) (name := eIB) (show Cond.classLink RL 19 eIB ∈ wsL_limitOf from by decide +kernel) (hX.2.2.1 (eIB, eIB) (by simp [nCs])) (fun u q hu => ?_)
  refine z_astore_n C [(3, .ref (q)), (0, .ref (ra)), (1, .int (x)), (2, .ref (oa))] dL_limitOf_12 (by decide) rfl ?_
  refine z_iconst (v := nI 1) C dL_limitOf_13 (by decide) ?_
  exact zh_iret C hr9 hk u rfl hu (List.Perm.of_eq rfl) dL_limitOf_14 (Nat.le_of_ble_eq_true rfl) (Nat.le_of_ble_eq_true rfl)
set_option maxRecDepth 100000 in
set_option maxHeartbeats 4000000 in
theorem mL_isClear_ok (l : Launch) (D : va_G) (κ : Nat → ClassId) (Sa : Nat → Nat) (g : Nat → Nat → Nat) (ra f9 h9 a9 b9 p9 o9 : Nat) (σ : Nat → Nat) (M : Nat) (b : Nat) (hr : Rep g σ) (hv : Inv M σ) (hb : b < σ 1) (adK adV : Nat → Nat) (oa : Nat) (fo : Nat → Int64) : zH (aX adK adV) l yL_isClear wsL_isClear { frames := 2, cells := 0, slots := 0, locals := 42 } D (zTy κ) [.ref ra, .int (nI b), .ref oa] (OUTW κ oa fo ++ (SW κ Sa g ++ (RC ra (Sa 0) f9 h9 a9 b9 p9 o9))) (S := Unit) (fun _ => some (.int (nI 0))) (fun _ => True) (fun _ => OUTW κ oa (vp_updL fo 0 (((nI (decide (σ (5 + 6 * b + 4) = 1)).toNat)).toInt64)) ++ (SW κ Sa g ++ (RC ra (Sa 0) f9 h9 a9 b9 p9 o9))) 0 0 := by
  refine zH_of (cc := cL_isClear) (maxL := 4) (rt := some .int) (hh := [(0, 16, 19, 19)]) [(0, .ref (ra)), (1, .int (nI b)), (2, .ref (oa))] (by decide +kernel) rfl (Nat.le_of_ble_eq_true rfl) rfl ?_
  intro p e s m args below meth c A C hr9 hk htab hX
  have C : zC p s m args c cL_isClear 4 wsL_isClear RL D (zTy κ) A := C
  refine z_aload_n C dL_isClear_0 2 rfl ?_
  refine z_iconst (v := nI 0) C dL_isClear_1 (by decide) ?_
  refine z_aload_n C dL_isClear_2 0 rfl ?_
  refine z_iload_n C dL_isClear_3 1 rfl ?_
  refine z_callV C (mX5_isClear_ok l D κ Sa g ra f9 h9 a9 b9 p9 o9 σ M b hr hv hb) gL_isClear_X5_isClear rfl rfl rfl hdX5_isClear ⟨(Nat.le_of_ble_eq_true rfl), (Nat.le_of_ble_eq_true rfl)⟩ 13 rfl rfl (OUTW κ oa fo) (fun _ => OUTW κ oa fo ++ (SW κ Sa g ++ (RC ra (Sa 0) f9 h9 a9 b9 p9 o9))) List.perm_append_comm (fun _ => List.perm_append_comm) rfl (Nat.le_of_ble_eq_true rfl) dL_isClear_4 ⟨(Nat.le_of_ble_eq_true rfl), (Nat.le_of_ble_eq_true rfl)⟩ (fun u hu => ?_)
  refine zb_if_eq C 14 dL_isClear_7 (by decide) (fun h1 => ?_) (fun h2 => ?_)
  · refine z_lconst (v := 0) C dL_isClear_14 (by decide) ?_
    refine z_last C 0 4 rfl rfl (i := 0) (by decide) (by decide) dL_isClear_15 (OUTW κ oa (vp_updL fo 0 (0)) ++ (SW κ Sa g ++ (RC ra (Sa 0) f9 h9 a9 b9 p9 o9))) rfl ?_
    refine z_goto (tgt := 22) C dL_isClear_16 (by decide) ?_
    refine z_iconst (v := nI 0) C dL_isClear_22 (by decide) ?_
    exact zh_iret C hr9 hk u rfl hu (List.Perm.of_eq (by rw [h1]; rfl)) dL_isClear_23 (Nat.le_of_ble_eq_true rfl) (Nat.le_of_ble_eq_true rfl)
  · refine z_lconst (v := 1) C dL_isClear_10 (by decide) ?_
    refine z_goto (tgt := 15) C dL_isClear_11 (by decide) ?_
    refine z_last C 0 4 rfl rfl (i := 0) (by decide) (by decide) dL_isClear_15 (OUTW κ oa (vp_updL fo 0 (1)) ++ (SW κ Sa g ++ (RC ra (Sa 0) f9 h9 a9 b9 p9 o9))) rfl ?_
    refine z_goto (tgt := 22) C dL_isClear_16 (by decide) ?_
    refine z_iconst (v := nI 0) C dL_isClear_22 (by decide) ?_
    exact zh_iret C hr9 hk u rfl hu (List.Perm.of_eq (by rw [h2]; rfl)) dL_isClear_23 (Nat.le_of_ble_eq_true rfl) (Nat.le_of_ble_eq_true rfl)
theorem hdL_isClear : yL_isClear.cls ≠ "java/lang/invoke/MethodHandle" ∧ yL_isClear.cls ≠ "java/lang/invoke/VarHandle" ∧ (parseMethodDescriptor yL_isClear.desc).map (fun d => d.parameters.length) = some 3 := by decide +kernel
set_option maxRecDepth 100000 in
set_option maxHeartbeats 4000000 in
theorem mL_isClear_no (l : Launch) (D : va_G) (κ : Nat → ClassId) (adK adV : Nat → Nat) (Sa : Nat → Nat) (g : Nat → Nat → Nat) (ra f9 h9 a9 b9 p9 o9 : Nat) (σ : Nat → Nat) (M : Nat) (x : Int32) (hls : l.stackTraces = false) (hr : Rep g σ) (hv : Inv M σ) (hx : isB (σ 1) x = false) (oa : Nat) (fo : Nat → Int64) : zH (aX adK adV) l yL_isClear wsL_isClear { frames := 8, cells := 1, slots := 6, locals := 124 } D (zTy κ) [.ref (ra), .int (x), .ref oa] (OUTW κ oa fo ++ (SW κ Sa g ++ (RC ra (Sa 0) f9 h9 a9 b9 p9 o9))) (S := Unit) (fun _ => some (.int (nI 1))) (fun _ => True) (fun _ => OUTW κ oa fo ++ (SW κ Sa g ++ (RC ra (Sa 0) f9 h9 a9 b9 p9 o9))) 1 6 := by
  refine zH_of (cc := cL_isClear) (maxL := 4) (rt := some .int) (hh := [(0, 16, 19, 19)]) [(0, .ref (ra)), (1, .int (x)), (2, .ref (oa))] (by decide +kernel) rfl (Nat.le_of_ble_eq_true rfl) rfl ?_
  intro p e s m args below meth c A C hr9 hk htab hX
  have C : zC p s m args c cL_isClear 4 wsL_isClear RL D (zTy κ) A := C
  refine z_aload_n C dL_isClear_0 2 rfl ?_
  refine z_iconst (v := nI 0) C dL_isClear_1 (by decide) ?_
  refine z_aload_n C dL_isClear_2 0 rfl ?_
  refine z_iload_n C dL_isClear_3 1 rfl ?_
  refine zx_catchV C (aX_ok adK adV) hX (mX5_isClear_no l D κ adK adV Sa g ra f9 h9 a9 b9 p9 o9 σ M x hls hr hv hx) gL_isClear_X5_isClear rfl rfl rfl hdX5_isClear ⟨(Nat.le_of_ble_eq_true rfl), (Nat.le_of_ble_eq_true rfl)⟩ 13 rfl rfl (OUTW κ oa fo) (fun _ => OUTW κ oa fo ++ (SW κ Sa g ++ (RC ra (Sa 0) f9 h9 a9 b9 p9 o9))) List.perm_append_comm (fun _ => List.perm_append_comm) rfl (Nat.le_of_ble_eq_true rfl) dL_isClear_4 ⟨(Nat.le_of_ble_eq_true rfl), (Nat.le_of_ble_eq_true rfl)⟩ [] ⟨0, 16, 19, 19⟩ [] htab (fun z hz => absurd hz List.not_mem_nil) (by decide) (by decide) (name := eIB) (show Cond.classLink RL 19 eIB ∈ wsL_isClear from by decide +kernel) (hX.2.2.1 (eIB, eIB) (by simp [nCs])) (fun u q hu => ?_)
  refine z_astore_n C [(3, .ref (q)), (0, .ref (ra)), (1, .int (x)), (2, .ref (oa))] dL_isClear_19 (by decide) rfl ?_
  refine z_iconst (v := nI 1) C dL_isClear_20 (by decide) ?_
  exact zh_iret C hr9 hk u rfl hu (List.Perm.of_eq rfl) dL_isClear_21 (Nat.le_of_ble_eq_true rfl) (Nat.le_of_ble_eq_true rfl)
set_option maxRecDepth 100000 in
set_option maxHeartbeats 4000000 in
theorem mL_trainIn_ok (l : Launch) (D : va_G) (κ : Nat → ClassId) (Sa : Nat → Nat) (g : Nat → Nat → Nat) (ra f9 h9 a9 b9 p9 o9 : Nat) (σ : Nat → Nat) (M : Nat) (b : Nat) (hr : Rep g σ) (hv : Inv M σ) (hb : b < σ 1) (adK adV : Nat → Nat) (oa : Nat) (fo : Nat → Int64) : zH (aX adK adV) l yL_trainIn wsL_trainIn { frames := 2, cells := 0, slots := 0, locals := 42 } D (zTy κ) [.ref ra, .int (nI b), .ref oa] (OUTW κ oa fo ++ (SW κ Sa g ++ (RC ra (Sa 0) f9 h9 a9 b9 p9 o9))) (S := Unit) (fun _ => some (.int (nI 0))) (fun _ => True) (fun _ => OUTW κ oa (vp_updL fo 0 (((tI (trAt σ b))).toInt64)) ++ (SW κ Sa g ++ (RC ra (Sa 0) f9 h9 a9 b9 p9 o9))) 0 0 := by
  refine zH_of (cc := cL_trainIn) (maxL := 4) (rt := some .int) (hh := [(0, 9, 12, 19)]) [(0, .ref (ra)), (1, .int (nI b)), (2, .ref (oa))] (by decide +kernel) rfl (Nat.le_of_ble_eq_true rfl) rfl ?_
  intro p e s m args below meth c A C hr9 hk htab hX
  have C : zC p s m args c cL_trainIn 4 wsL_trainIn RL D (zTy κ) A := C
  refine z_aload_n C dL_trainIn_0 2 rfl ?_
  refine z_iconst (v := nI 0) C dL_trainIn_1 (by decide) ?_
  refine z_aload_n C dL_trainIn_2 0 rfl ?_
  refine z_iload_n C dL_trainIn_3 1 rfl ?_
  refine z_callV C (mX5_trainIn_ok l D κ Sa g ra f9 h9 a9 b9 p9 o9 σ M b hr hv hb) gL_trainIn_X5_trainIn rfl rfl rfl hdX5_trainIn ⟨(Nat.le_of_ble_eq_true rfl), (Nat.le_of_ble_eq_true rfl)⟩ 13 rfl rfl (OUTW κ oa fo) (fun _ => OUTW κ oa fo ++ (SW κ Sa g ++ (RC ra (Sa 0) f9 h9 a9 b9 p9 o9))) List.perm_append_comm (fun _ => List.perm_append_comm) rfl (Nat.le_of_ble_eq_true rfl) dL_trainIn_4 ⟨(Nat.le_of_ble_eq_true rfl), (Nat.le_of_ble_eq_true rfl)⟩ (fun u hu => ?_)
  refine z_i2l C dL_trainIn_7 rfl ?_
  refine z_last C 0 4 rfl rfl (i := 0) (by decide) (by decide) dL_trainIn_8 (OUTW κ oa (vp_updL fo 0 (((tI (trAt σ b))).toInt64)) ++ (SW κ Sa g ++ (RC ra (Sa 0) f9 h9 a9 b9 p9 o9))) rfl ?_
  refine z_goto (tgt := 15) C dL_trainIn_9 (by decide) ?_
  refine z_iconst (v := nI 0) C dL_trainIn_15 (by decide) ?_
  exact zh_iret C hr9 hk u rfl hu (List.Perm.of_eq rfl) dL_trainIn_16 (Nat.le_of_ble_eq_true rfl) (Nat.le_of_ble_eq_true rfl)
theorem hdL_trainIn : yL_trainIn.cls ≠ "java/lang/invoke/MethodHandle" ∧ yL_trainIn.cls ≠ "java/lang/invoke/VarHandle" ∧ (parseMethodDescriptor yL_trainIn.desc).map (fun d => d.parameters.length) = some 3 := by decide +kernel
set_option maxRecDepth 100000 in
set_option maxHeartbeats 4000000 in
theorem mL_trainIn_no (l : Launch) (D : va_G) (κ : Nat → ClassId) (adK adV : Nat → Nat) (Sa : Nat → Nat) (g : Nat → Nat → Nat) (ra f9 h9 a9 b9 p9 o9 : Nat) (σ : Nat → Nat) (M : Nat) (x : Int32) (hls : l.stackTraces = false) (hr : Rep g σ) (hv : Inv M σ) (hx : isB (σ 1) x = false) (oa : Nat) (fo : Nat → Int64) : zH (aX adK adV) l yL_trainIn wsL_trainIn { frames := 8, cells := 1, slots := 6, locals := 124 } D (zTy κ) [.ref (ra), .int (x), .ref oa] (OUTW κ oa fo ++ (SW κ Sa g ++ (RC ra (Sa 0) f9 h9 a9 b9 p9 o9))) (S := Unit) (fun _ => some (.int (nI 1))) (fun _ => True) (fun _ => OUTW κ oa fo ++ (SW κ Sa g ++ (RC ra (Sa 0) f9 h9 a9 b9 p9 o9))) 1 6 := by
  refine zH_of (cc := cL_trainIn) (maxL := 4) (rt := some .int) (hh := [(0, 9, 12, 19)]) [(0, .ref (ra)), (1, .int (x)), (2, .ref (oa))] (by decide +kernel) rfl (Nat.le_of_ble_eq_true rfl) rfl ?_
  intro p e s m args below meth c A C hr9 hk htab hX
  have C : zC p s m args c cL_trainIn 4 wsL_trainIn RL D (zTy κ) A := C
  refine z_aload_n C dL_trainIn_0 2 rfl ?_
  refine z_iconst (v := nI 0) C dL_trainIn_1 (by decide) ?_
  refine z_aload_n C dL_trainIn_2 0 rfl ?_
  refine z_iload_n C dL_trainIn_3 1 rfl ?_
  refine zx_catchV C (aX_ok adK adV) hX (mX5_trainIn_no l D κ adK adV Sa g ra f9 h9 a9 b9 p9 o9 σ M x hls hr hv hx) gL_trainIn_X5_trainIn rfl rfl rfl hdX5_trainIn ⟨(Nat.le_of_ble_eq_true rfl), (Nat.le_of_ble_eq_true rfl)⟩ 13 rfl rfl (OUTW κ oa fo) (fun _ => OUTW κ oa fo ++ (SW κ Sa g ++ (RC ra (Sa 0) f9 h9 a9 b9 p9 o9))) List.perm_append_comm (fun _ => List.perm_append_comm) rfl (Nat.le_of_ble_eq_true rfl) dL_trainIn_4 ⟨(Nat.le_of_ble_eq_true rfl), (Nat.le_of_ble_eq_true rfl)⟩ [] ⟨0, 9, 12, 19⟩ [] htab (fun z hz => absurd hz List.not_mem_nil) (by decide) (by decide) (name := eIB) (show Cond.classLink RL 19 eIB ∈ wsL_trainIn from by decide +kernel) (hX.2.2.1 (eIB, eIB) (by simp [nCs])) (fun u q hu => ?_)
  refine z_astore_n C [(3, .ref (q)), (0, .ref (ra)), (1, .int (x)), (2, .ref (oa))] dL_trainIn_12 (by decide) rfl ?_
  refine z_iconst (v := nI 1) C dL_trainIn_13 (by decide) ?_
  exact zh_iret C hr9 hk u rfl hu (List.Perm.of_eq rfl) dL_trainIn_14 (Nat.le_of_ble_eq_true rfl) (Nat.le_of_ble_eq_true rfl)
set_option maxRecDepth 100000 in
set_option maxHeartbeats 4000000 in
theorem mL_lostIn_ok (l : Launch) (D : va_G) (κ : Nat → ClassId) (Sa : Nat → Nat) (g : Nat → Nat → Nat) (ra f9 h9 a9 b9 p9 o9 : Nat) (σ : Nat → Nat) (M : Nat) (b : Nat) (hr : Rep g σ) (hv : Inv M σ) (hb : b < σ 1) (adK adV : Nat → Nat) (oa : Nat) (fo : Nat → Int64) : zH (aX adK adV) l yL_lostIn wsL_lostIn { frames := 2, cells := 0, slots := 0, locals := 42 } D (zTy κ) [.ref ra, .int (nI b), .ref oa] (OUTW κ oa fo ++ (SW κ Sa g ++ (RC ra (Sa 0) f9 h9 a9 b9 p9 o9))) (S := Unit) (fun _ => some (.int (nI 0))) (fun _ => True) (fun _ => OUTW κ oa (vp_updL fo 0 (((nI (σ (5 + 6 * b + 5)))).toInt64)) ++ (SW κ Sa g ++ (RC ra (Sa 0) f9 h9 a9 b9 p9 o9))) 0 0 := by
  refine zH_of (cc := cL_lostIn) (maxL := 4) (rt := some .int) (hh := [(0, 9, 12, 19)]) [(0, .ref (ra)), (1, .int (nI b)), (2, .ref (oa))] (by decide +kernel) rfl (Nat.le_of_ble_eq_true rfl) rfl ?_
  intro p e s m args below meth c A C hr9 hk htab hX
  have C : zC p s m args c cL_lostIn 4 wsL_lostIn RL D (zTy κ) A := C
  refine z_aload_n C dL_lostIn_0 2 rfl ?_
  refine z_iconst (v := nI 0) C dL_lostIn_1 (by decide) ?_
  refine z_aload_n C dL_lostIn_2 0 rfl ?_
  refine z_iload_n C dL_lostIn_3 1 rfl ?_
  refine z_callV C (mX5_lostIn_ok l D κ Sa g ra f9 h9 a9 b9 p9 o9 σ M b hr hv hb) gL_lostIn_X5_lostIn rfl rfl rfl hdX5_lostIn ⟨(Nat.le_of_ble_eq_true rfl), (Nat.le_of_ble_eq_true rfl)⟩ 13 rfl rfl (OUTW κ oa fo) (fun _ => OUTW κ oa fo ++ (SW κ Sa g ++ (RC ra (Sa 0) f9 h9 a9 b9 p9 o9))) List.perm_append_comm (fun _ => List.perm_append_comm) rfl (Nat.le_of_ble_eq_true rfl) dL_lostIn_4 ⟨(Nat.le_of_ble_eq_true rfl), (Nat.le_of_ble_eq_true rfl)⟩ (fun u hu => ?_)
  refine z_i2l C dL_lostIn_7 rfl ?_
  refine z_last C 0 4 rfl rfl (i := 0) (by decide) (by decide) dL_lostIn_8 (OUTW κ oa (vp_updL fo 0 (((nI (σ (5 + 6 * b + 5)))).toInt64)) ++ (SW κ Sa g ++ (RC ra (Sa 0) f9 h9 a9 b9 p9 o9))) rfl ?_
  refine z_goto (tgt := 15) C dL_lostIn_9 (by decide) ?_
  refine z_iconst (v := nI 0) C dL_lostIn_15 (by decide) ?_
  exact zh_iret C hr9 hk u rfl hu (List.Perm.of_eq rfl) dL_lostIn_16 (Nat.le_of_ble_eq_true rfl) (Nat.le_of_ble_eq_true rfl)
theorem hdL_lostIn : yL_lostIn.cls ≠ "java/lang/invoke/MethodHandle" ∧ yL_lostIn.cls ≠ "java/lang/invoke/VarHandle" ∧ (parseMethodDescriptor yL_lostIn.desc).map (fun d => d.parameters.length) = some 3 := by decide +kernel
set_option maxRecDepth 100000 in
set_option maxHeartbeats 4000000 in
theorem mL_lostIn_no (l : Launch) (D : va_G) (κ : Nat → ClassId) (adK adV : Nat → Nat) (Sa : Nat → Nat) (g : Nat → Nat → Nat) (ra f9 h9 a9 b9 p9 o9 : Nat) (σ : Nat → Nat) (M : Nat) (x : Int32) (hls : l.stackTraces = false) (hr : Rep g σ) (hv : Inv M σ) (hx : isB (σ 1) x = false) (oa : Nat) (fo : Nat → Int64) : zH (aX adK adV) l yL_lostIn wsL_lostIn { frames := 8, cells := 1, slots := 6, locals := 124 } D (zTy κ) [.ref (ra), .int (x), .ref oa] (OUTW κ oa fo ++ (SW κ Sa g ++ (RC ra (Sa 0) f9 h9 a9 b9 p9 o9))) (S := Unit) (fun _ => some (.int (nI 1))) (fun _ => True) (fun _ => OUTW κ oa fo ++ (SW κ Sa g ++ (RC ra (Sa 0) f9 h9 a9 b9 p9 o9))) 1 6 := by
  refine zH_of (cc := cL_lostIn) (maxL := 4) (rt := some .int) (hh := [(0, 9, 12, 19)]) [(0, .ref (ra)), (1, .int (x)), (2, .ref (oa))] (by decide +kernel) rfl (Nat.le_of_ble_eq_true rfl) rfl ?_
  intro p e s m args below meth c A C hr9 hk htab hX
  have C : zC p s m args c cL_lostIn 4 wsL_lostIn RL D (zTy κ) A := C
  refine z_aload_n C dL_lostIn_0 2 rfl ?_
  refine z_iconst (v := nI 0) C dL_lostIn_1 (by decide) ?_
  refine z_aload_n C dL_lostIn_2 0 rfl ?_
  refine z_iload_n C dL_lostIn_3 1 rfl ?_
  refine zx_catchV C (aX_ok adK adV) hX (mX5_lostIn_no l D κ adK adV Sa g ra f9 h9 a9 b9 p9 o9 σ M x hls hr hv hx) gL_lostIn_X5_lostIn rfl rfl rfl hdX5_lostIn ⟨(Nat.le_of_ble_eq_true rfl), (Nat.le_of_ble_eq_true rfl)⟩ 13 rfl rfl (OUTW κ oa fo) (fun _ => OUTW κ oa fo ++ (SW κ Sa g ++ (RC ra (Sa 0) f9 h9 a9 b9 p9 o9))) List.perm_append_comm (fun _ => List.perm_append_comm) rfl (Nat.le_of_ble_eq_true rfl) dL_lostIn_4 ⟨(Nat.le_of_ble_eq_true rfl), (Nat.le_of_ble_eq_true rfl)⟩ [] ⟨0, 9, 12, 19⟩ [] htab (fun z hz => absurd hz List.not_mem_nil) (by decide) (by decide) (name := eIB) (show Cond.classLink RL 19 eIB ∈ wsL_lostIn from by decide +kernel) (hX.2.2.1 (eIB, eIB) (by simp [nCs])) (fun u q hu => ?_)
  refine z_astore_n C [(3, .ref (q)), (0, .ref (ra)), (1, .int (x)), (2, .ref (oa))] dL_lostIn_12 (by decide) rfl ?_
  refine z_iconst (v := nI 1) C dL_lostIn_13 (by decide) ?_
  exact zh_iret C hr9 hk u rfl hu (List.Perm.of_eq rfl) dL_lostIn_14 (Nat.le_of_ble_eq_true rfl) (Nat.le_of_ble_eq_true rfl)
set_option maxRecDepth 100000 in
set_option maxHeartbeats 4000000 in
theorem mL_departuresFrom_ok (l : Launch) (D : va_G) (κ : Nat → ClassId) (Sa : Nat → Nat) (g : Nat → Nat → Nat) (ra f9 h9 a9 b9 p9 o9 : Nat) (σ : Nat → Nat) (M : Nat) (b : Nat) (hr : Rep g σ) (hv : Inv M σ) (hb : b < σ 1) (adK adV : Nat → Nat) (oa : Nat) (fo : Nat → Int64) : zH (aX adK adV) l yL_departuresFrom wsL_departuresFrom { frames := 2, cells := 0, slots := 0, locals := 45 } D (zTy κ) [.ref ra, .int (nI b), .ref oa] (OUTW κ oa fo ++ (SW κ Sa g ++ (RC ra (Sa 0) f9 h9 a9 b9 p9 o9))) (S := Unit) (fun _ => some (.int (nI 0))) (fun _ => True) (fun _ => OUTW κ oa (vp_updL fo 0 (((nI (sumL (fun i => σ (90 + 10 * i + b)) (σ 2)))).toInt64)) ++ (SW κ Sa g ++ (RC ra (Sa 0) f9 h9 a9 b9 p9 o9))) 0 0 := by
  refine zH_of (cc := cL_departuresFrom) (maxL := 4) (rt := some .int) (hh := [(0, 9, 12, 19)]) [(0, .ref (ra)), (1, .int (nI b)), (2, .ref (oa))] (by decide +kernel) rfl (Nat.le_of_ble_eq_true rfl) rfl ?_
  intro p e s m args below meth c A C hr9 hk htab hX
  have C : zC p s m args c cL_departuresFrom 4 wsL_departuresFrom RL D (zTy κ) A := C
  refine z_aload_n C dL_departuresFrom_0 2 rfl ?_
  refine z_iconst (v := nI 0) C dL_departuresFrom_1 (by decide) ?_
  refine z_aload_n C dL_departuresFrom_2 0 rfl ?_
  refine z_iload_n C dL_departuresFrom_3 1 rfl ?_
  refine z_callV C (mX5_departuresFrom_ok l D κ Sa g ra f9 h9 a9 b9 p9 o9 σ M b hr hv hb) gL_departuresFrom_X5_departuresFrom rfl rfl rfl hdX5_departuresFrom ⟨(Nat.le_of_ble_eq_true rfl), (Nat.le_of_ble_eq_true rfl)⟩ 13 rfl rfl (OUTW κ oa fo) (fun _ => OUTW κ oa fo ++ (SW κ Sa g ++ (RC ra (Sa 0) f9 h9 a9 b9 p9 o9))) List.perm_append_comm (fun _ => List.perm_append_comm) rfl (Nat.le_of_ble_eq_true rfl) dL_departuresFrom_4 ⟨(Nat.le_of_ble_eq_true rfl), (Nat.le_of_ble_eq_true rfl)⟩ (fun u hu => ?_)
  refine z_i2l C dL_departuresFrom_7 rfl ?_
  refine z_last C 0 4 rfl rfl (i := 0) (by decide) (by decide) dL_departuresFrom_8 (OUTW κ oa (vp_updL fo 0 (((nI (sumL (fun i => σ (90 + 10 * i + b)) (σ 2)))).toInt64)) ++ (SW κ Sa g ++ (RC ra (Sa 0) f9 h9 a9 b9 p9 o9))) rfl ?_
  refine z_goto (tgt := 15) C dL_departuresFrom_9 (by decide) ?_
  refine z_iconst (v := nI 0) C dL_departuresFrom_15 (by decide) ?_
  exact zh_iret C hr9 hk u rfl hu (List.Perm.of_eq rfl) dL_departuresFrom_16 (Nat.le_of_ble_eq_true rfl) (Nat.le_of_ble_eq_true rfl)
theorem hdL_departuresFrom : yL_departuresFrom.cls ≠ "java/lang/invoke/MethodHandle" ∧ yL_departuresFrom.cls ≠ "java/lang/invoke/VarHandle" ∧ (parseMethodDescriptor yL_departuresFrom.desc).map (fun d => d.parameters.length) = some 3 := by decide +kernel
set_option maxRecDepth 100000 in
set_option maxHeartbeats 4000000 in
theorem mL_departuresFrom_no (l : Launch) (D : va_G) (κ : Nat → ClassId) (adK adV : Nat → Nat) (Sa : Nat → Nat) (g : Nat → Nat → Nat) (ra f9 h9 a9 b9 p9 o9 : Nat) (σ : Nat → Nat) (M : Nat) (x : Int32) (hls : l.stackTraces = false) (hr : Rep g σ) (hv : Inv M σ) (hx : isB (σ 1) x = false) (oa : Nat) (fo : Nat → Int64) : zH (aX adK adV) l yL_departuresFrom wsL_departuresFrom { frames := 8, cells := 1, slots := 6, locals := 126 } D (zTy κ) [.ref (ra), .int (x), .ref oa] (OUTW κ oa fo ++ (SW κ Sa g ++ (RC ra (Sa 0) f9 h9 a9 b9 p9 o9))) (S := Unit) (fun _ => some (.int (nI 1))) (fun _ => True) (fun _ => OUTW κ oa fo ++ (SW κ Sa g ++ (RC ra (Sa 0) f9 h9 a9 b9 p9 o9))) 1 6 := by
  refine zH_of (cc := cL_departuresFrom) (maxL := 4) (rt := some .int) (hh := [(0, 9, 12, 19)]) [(0, .ref (ra)), (1, .int (x)), (2, .ref (oa))] (by decide +kernel) rfl (Nat.le_of_ble_eq_true rfl) rfl ?_
  intro p e s m args below meth c A C hr9 hk htab hX
  have C : zC p s m args c cL_departuresFrom 4 wsL_departuresFrom RL D (zTy κ) A := C
  refine z_aload_n C dL_departuresFrom_0 2 rfl ?_
  refine z_iconst (v := nI 0) C dL_departuresFrom_1 (by decide) ?_
  refine z_aload_n C dL_departuresFrom_2 0 rfl ?_
  refine z_iload_n C dL_departuresFrom_3 1 rfl ?_
  refine zx_catchV C (aX_ok adK adV) hX (mX5_departuresFrom_no l D κ adK adV Sa g ra f9 h9 a9 b9 p9 o9 σ M x hls hr hv hx) gL_departuresFrom_X5_departuresFrom rfl rfl rfl hdX5_departuresFrom ⟨(Nat.le_of_ble_eq_true rfl), (Nat.le_of_ble_eq_true rfl)⟩ 13 rfl rfl (OUTW κ oa fo) (fun _ => OUTW κ oa fo ++ (SW κ Sa g ++ (RC ra (Sa 0) f9 h9 a9 b9 p9 o9))) List.perm_append_comm (fun _ => List.perm_append_comm) rfl (Nat.le_of_ble_eq_true rfl) dL_departuresFrom_4 ⟨(Nat.le_of_ble_eq_true rfl), (Nat.le_of_ble_eq_true rfl)⟩ [] ⟨0, 9, 12, 19⟩ [] htab (fun z hz => absurd hz List.not_mem_nil) (by decide) (by decide) (name := eIB) (show Cond.classLink RL 19 eIB ∈ wsL_departuresFrom from by decide +kernel) (hX.2.2.1 (eIB, eIB) (by simp [nCs])) (fun u q hu => ?_)
  refine z_astore_n C [(3, .ref (q)), (0, .ref (ra)), (1, .int (x)), (2, .ref (oa))] dL_departuresFrom_12 (by decide) rfl ?_
  refine z_iconst (v := nI 1) C dL_departuresFrom_13 (by decide) ?_
  exact zh_iret C hr9 hk u rfl hu (List.Perm.of_eq rfl) dL_departuresFrom_14 (Nat.le_of_ble_eq_true rfl) (Nat.le_of_ble_eq_true rfl)
set_option maxRecDepth 100000 in
set_option maxHeartbeats 4000000 in
theorem mL_obstacle_ok (l : Launch) (D : va_G) (κ : Nat → ClassId) (Sa : Nat → Nat) (g : Nat → Nat → Nat) (ra f9 h9 a9 b9 p9 o9 : Nat) (σ : Nat → Nat) (M : Nat) (b : Nat) (hr : Rep g σ) (hv : Inv M σ) (hb : b < σ 1) (adK adV : Nat → Nat) (oa : Nat) (fo : Nat → Int64) : zH (aX adK adV) l yL_obstacle wsL_obstacle { frames := 3, cells := 0, slots := 0, locals := 63 } D (zTy κ) [.ref ra, .int (nI b), .ref oa] (OUTW κ oa fo ++ (SW κ Sa g ++ (RC ra (Sa 0) f9 h9 a9 b9 p9 o9))) (S := Unit) (fun _ => some (.int (nI 0))) (fun _ => True) (fun _ => OUTW κ oa (vp_updL fo 0 (((nI (rsn σ b))).toInt64)) ++ (SW κ Sa g ++ (RC ra (Sa 0) f9 h9 a9 b9 p9 o9))) 0 0 := by
  refine zH_of (cc := cL_obstacle) (maxL := 4) (rt := some .int) (hh := [(0, 9, 12, 19)]) [(0, .ref (ra)), (1, .int (nI b)), (2, .ref (oa))] (by decide +kernel) rfl (Nat.le_of_ble_eq_true rfl) rfl ?_
  intro p e s m args below meth c A C hr9 hk htab hX
  have C : zC p s m args c cL_obstacle 4 wsL_obstacle RL D (zTy κ) A := C
  refine z_aload_n C dL_obstacle_0 2 rfl ?_
  refine z_iconst (v := nI 0) C dL_obstacle_1 (by decide) ?_
  refine z_aload_n C dL_obstacle_2 0 rfl ?_
  refine z_iload_n C dL_obstacle_3 1 rfl ?_
  refine z_callV C (mX5_obstacle_ok l D κ Sa g ra f9 h9 a9 b9 p9 o9 σ M b hr hv hb) gL_obstacle_X5_obstacle rfl rfl rfl hdX5_obstacle ⟨(Nat.le_of_ble_eq_true rfl), (Nat.le_of_ble_eq_true rfl)⟩ 13 rfl rfl (OUTW κ oa fo) (fun _ => OUTW κ oa fo ++ (SW κ Sa g ++ (RC ra (Sa 0) f9 h9 a9 b9 p9 o9))) List.perm_append_comm (fun _ => List.perm_append_comm) rfl (Nat.le_of_ble_eq_true rfl) dL_obstacle_4 ⟨(Nat.le_of_ble_eq_true rfl), (Nat.le_of_ble_eq_true rfl)⟩ (fun u hu => ?_)
  refine z_i2l C dL_obstacle_7 rfl ?_
  refine z_last C 0 4 rfl rfl (i := 0) (by decide) (by decide) dL_obstacle_8 (OUTW κ oa (vp_updL fo 0 (((nI (rsn σ b))).toInt64)) ++ (SW κ Sa g ++ (RC ra (Sa 0) f9 h9 a9 b9 p9 o9))) rfl ?_
  refine z_goto (tgt := 15) C dL_obstacle_9 (by decide) ?_
  refine z_iconst (v := nI 0) C dL_obstacle_15 (by decide) ?_
  exact zh_iret C hr9 hk u rfl hu (List.Perm.of_eq rfl) dL_obstacle_16 (Nat.le_of_ble_eq_true rfl) (Nat.le_of_ble_eq_true rfl)
theorem hdL_obstacle : yL_obstacle.cls ≠ "java/lang/invoke/MethodHandle" ∧ yL_obstacle.cls ≠ "java/lang/invoke/VarHandle" ∧ (parseMethodDescriptor yL_obstacle.desc).map (fun d => d.parameters.length) = some 3 := by decide +kernel
set_option maxRecDepth 100000 in
set_option maxHeartbeats 4000000 in
theorem mL_obstacle_no (l : Launch) (D : va_G) (κ : Nat → ClassId) (adK adV : Nat → Nat) (Sa : Nat → Nat) (g : Nat → Nat → Nat) (ra f9 h9 a9 b9 p9 o9 : Nat) (σ : Nat → Nat) (M : Nat) (x : Int32) (hls : l.stackTraces = false) (hr : Rep g σ) (hv : Inv M σ) (hx : isB (σ 1) x = false) (oa : Nat) (fo : Nat → Int64) : zH (aX adK adV) l yL_obstacle wsL_obstacle { frames := 8, cells := 1, slots := 6, locals := 124 } D (zTy κ) [.ref (ra), .int (x), .ref oa] (OUTW κ oa fo ++ (SW κ Sa g ++ (RC ra (Sa 0) f9 h9 a9 b9 p9 o9))) (S := Unit) (fun _ => some (.int (nI 1))) (fun _ => True) (fun _ => OUTW κ oa fo ++ (SW κ Sa g ++ (RC ra (Sa 0) f9 h9 a9 b9 p9 o9))) 1 6 := by
  refine zH_of (cc := cL_obstacle) (maxL := 4) (rt := some .int) (hh := [(0, 9, 12, 19)]) [(0, .ref (ra)), (1, .int (x)), (2, .ref (oa))] (by decide +kernel) rfl (Nat.le_of_ble_eq_true rfl) rfl ?_
  intro p e s m args below meth c A C hr9 hk htab hX
  have C : zC p s m args c cL_obstacle 4 wsL_obstacle RL D (zTy κ) A := C
  refine z_aload_n C dL_obstacle_0 2 rfl ?_
  refine z_iconst (v := nI 0) C dL_obstacle_1 (by decide) ?_
  refine z_aload_n C dL_obstacle_2 0 rfl ?_
  refine z_iload_n C dL_obstacle_3 1 rfl ?_
  refine zx_catchV C (aX_ok adK adV) hX (mX5_obstacle_no l D κ adK adV Sa g ra f9 h9 a9 b9 p9 o9 σ M x hls hr hv hx) gL_obstacle_X5_obstacle rfl rfl rfl hdX5_obstacle ⟨(Nat.le_of_ble_eq_true rfl), (Nat.le_of_ble_eq_true rfl)⟩ 13 rfl rfl (OUTW κ oa fo) (fun _ => OUTW κ oa fo ++ (SW κ Sa g ++ (RC ra (Sa 0) f9 h9 a9 b9 p9 o9))) List.perm_append_comm (fun _ => List.perm_append_comm) rfl (Nat.le_of_ble_eq_true rfl) dL_obstacle_4 ⟨(Nat.le_of_ble_eq_true rfl), (Nat.le_of_ble_eq_true rfl)⟩ [] ⟨0, 9, 12, 19⟩ [] htab (fun z hz => absurd hz List.not_mem_nil) (by decide) (by decide) (name := eIB) (show Cond.classLink RL 19 eIB ∈ wsL_obstacle from by decide +kernel) (hX.2.2.1 (eIB, eIB) (by simp [nCs])) (fun u q hu => ?_)
  refine z_astore_n C [(3, .ref (q)), (0, .ref (ra)), (1, .int (x)), (2, .ref (oa))] dL_obstacle_12 (by decide) rfl ?_
  refine z_iconst (v := nI 1) C dL_obstacle_13 (by decide) ?_
  exact zh_iret C hr9 hk u rfl hu (List.Perm.of_eq rfl) dL_obstacle_14 (Nat.le_of_ble_eq_true rfl) (Nat.le_of_ble_eq_true rfl)
end LH
