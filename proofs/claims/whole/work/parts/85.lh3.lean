section LH
set_option maxRecDepth 100000 in
set_option maxHeartbeats 4000000 in
theorem mL_passages_ok (l : Launch) (D : va_G) (κ : Nat → ClassId) (Sa : Nat → Nat) (g : Nat → Nat → Nat) (ra f9 h9 a9 b9 p9 o9 : Nat) (σ : Nat → Nat) (M : Nat) (b q : Nat) (hr : Rep g σ) (hv : Inv M σ) (hb : b < σ 2) (hq : q < σ 1) (adK adV : Nat → Nat) (oa : Nat) (fo : Nat → Int64) : zH (aX adK adV) l yL_passages wsL_passages { frames := 2, cells := 0, slots := 0, locals := 44 } D (zTy κ) [.ref ra, .int (nI b), .int (nI q), .ref oa] (OUTW κ oa fo ++ (SW κ Sa g ++ (RC ra (Sa 0) f9 h9 a9 b9 p9 o9))) (S := Unit) (fun _ => some (.int (nI 0))) (fun _ => True) (fun _ => OUTW κ oa (vp_updL fo 0 (((nI (σ (90 + 10 * b + q)))).toInt64)) ++ (SW κ Sa g ++ (RC ra (Sa 0) f9 h9 a9 b9 p9 o9))) 0 0 := by
  refine zH_of (cc := cL_passages) (maxL := 5) (rt := some .int) (hh := [(0, 10, 13, 19)]) [(0, .ref (ra)), (1, .int (nI b)), (2, .int (nI q)), (3, .ref (oa))] (by decide +kernel) rfl (Nat.le_of_ble_eq_true rfl) rfl ?_
  intro p e s m args below meth c A C hr9 hk htab hX
  have C : zC p s m args c cL_passages 5 wsL_passages RL D (zTy κ) A := C
  refine z_aload_n C dL_passages_0 3 rfl ?_
  refine z_iconst (v := nI 0) C dL_passages_1 (by decide) ?_
  refine z_aload_n C dL_passages_2 0 rfl ?_
  refine z_iload_n C dL_passages_3 1 rfl ?_
  refine z_iload_n C dL_passages_4 2 rfl ?_
  refine z_callV C (mX5_passages_ok l D κ Sa g ra f9 h9 a9 b9 p9 o9 σ M b q hr hv hb hq) gL_passages_X5_passages rfl rfl rfl hdX5_passages ⟨(Nat.le_of_ble_eq_true rfl), (Nat.le_of_ble_eq_true rfl)⟩ 13 rfl rfl (OUTW κ oa fo) (fun _ => OUTW κ oa fo ++ (SW κ Sa g ++ (RC ra (Sa 0) f9 h9 a9 b9 p9 o9))) List.perm_append_comm (fun _ => List.perm_append_comm) rfl (Nat.le_of_ble_eq_true rfl) dL_passages_5 ⟨(Nat.le_of_ble_eq_true rfl), (Nat.le_of_ble_eq_true rfl)⟩ (fun u hu => ?_)
  refine z_i2l C dL_passages_8 rfl ?_
  refine z_last C 0 4 rfl rfl (i := 0) (by decide) (by decide) dL_passages_9 (OUTW κ oa (vp_updL fo 0 (((nI (σ (90 + 10 * b + q)))).toInt64)) ++ (SW κ Sa g ++ (RC ra (Sa 0) f9 h9 a9 b9 p9 o9))) rfl ?_
  refine z_goto (tgt := 17) C dL_passages_10 (by decide) ?_
  refine z_iconst (v := nI 0) C dL_passages_17 (by decide) ?_
  exact zh_iret C hr9 hk u rfl hu (List.Perm.of_eq rfl) dL_passages_18 (Nat.le_of_ble_eq_true rfl) (Nat.le_of_ble_eq_true rfl)
theorem hdL_passages : yL_passages.cls ≠ "java/lang/invoke/MethodHandle" ∧ yL_passages.cls ≠ "java/lang/invoke/VarHandle" ∧ (parseMethodDescriptor yL_passages.desc).map (fun d => d.parameters.length) = some 4 := by decide +kernel
set_option maxRecDepth 100000 in
set_option maxHeartbeats 4000000 in
theorem mL_passages_no (l : Launch) (D : va_G) (κ : Nat → ClassId) (adK adV : Nat → Nat) (Sa : Nat → Nat) (g : Nat → Nat → Nat) (ra f9 h9 a9 b9 p9 o9 : Nat) (σ : Nat → Nat) (M : Nat) (x y : Int32) (hls : l.stackTraces = false) (hr : Rep g σ) (hv : Inv M σ) (hx : isB (σ 2) x = false) (oa : Nat) (fo : Nat → Int64) : zH (aX adK adV) l yL_passages wsL_passages { frames := 8, cells := 1, slots := 6, locals := 125 } D (zTy κ) [.ref (ra), .int (x), .int (y), .ref oa] (OUTW κ oa fo ++ (SW κ Sa g ++ (RC ra (Sa 0) f9 h9 a9 b9 p9 o9))) (S := Unit) (fun _ => some (.int (nI 1))) (fun _ => True) (fun _ => OUTW κ oa fo ++ (SW κ Sa g ++ (RC ra (Sa 0) f9 h9 a9 b9 p9 o9))) 1 6 := by
  refine zH_of (cc := cL_passages) (maxL := 5) (rt := some .int) (hh := [(0, 10, 13, 19)]) [(0, .ref (ra)), (1, .int (x)), (2, .int (y)), (3, .ref (oa))] (by decide +kernel) rfl (Nat.le_of_ble_eq_true rfl) rfl ?_
  intro p e s m args below meth c A C hr9 hk htab hX
  have C : zC p s m args c cL_passages 5 wsL_passages RL D (zTy κ) A := C
  refine z_aload_n C dL_passages_0 3 rfl ?_
  refine z_iconst (v := nI 0) C dL_passages_1 (by decide) ?_
  refine z_aload_n C dL_passages_2 0 rfl ?_
  refine z_iload_n C dL_passages_3 1 rfl ?_
  refine z_iload_n C dL_passages_4 2 rfl ?_
  refine zx_catchV C (aX_ok adK adV) hX (mX5_passages_no l D κ adK adV Sa g ra f9 h9 a9 b9 p9 o9 σ M x y hls hr hv hx) gL_passages_X5_passages rfl rfl rfl hdX5_passages ⟨(Nat.le_of_ble_eq_true rfl), (Nat.le_of_ble_eq_true rfl)⟩ 13 rfl rfl (OUTW κ oa fo) (fun _ => OUTW κ oa fo ++ (SW κ Sa g ++ (RC ra (Sa 0) f9 h9 a9 b9 p9 o9))) List.perm_append_comm (fun _ => List.perm_append_comm) rfl (Nat.le_of_ble_eq_true rfl) dL_passages_5 ⟨(Nat.le_of_ble_eq_true rfl), (Nat.le_of_ble_eq_true rfl)⟩ [] ⟨0, 10, 13, 19⟩ [] htab (fun z hz => absurd hz List.not_mem_nil) (by decide) (by decide) (name := eIB) (show Cond.classLink RL 19 eIB ∈ wsL_passages from by decide +kernel) (hX.2.2.1 (eIB, eIB) (by simp [nCs])) (fun u q hu => ?_)
  refine z_astore C [(4, .ref (q)), (0, .ref (ra)), (1, .int (x)), (2, .int (y)), (3, .ref (oa))] dL_passages_13 (by decide) rfl ?_
  refine z_iconst (v := nI 1) C dL_passages_15 (by decide) ?_
  exact zh_iret C hr9 hk u rfl hu (List.Perm.of_eq rfl) dL_passages_16 (Nat.le_of_ble_eq_true rfl) (Nat.le_of_ble_eq_true rfl)
set_option maxRecDepth 100000 in
set_option maxHeartbeats 4000000 in
theorem mL_passages_nb (l : Launch) (D : va_G) (κ : Nat → ClassId) (adK adV : Nat → Nat) (Sa : Nat → Nat) (g : Nat → Nat → Nat) (ra f9 h9 a9 b9 p9 o9 : Nat) (σ : Nat → Nat) (M : Nat) (b : Nat) (x : Int32) (hls : l.stackTraces = false) (hr : Rep g σ) (hv : Inv M σ) (hb : b < σ 2) (hx : isB (σ 1) x = false) (oa : Nat) (fo : Nat → Int64) : zH (aX adK adV) l yL_passages wsL_passages { frames := 8, cells := 1, slots := 6, locals := 125 } D (zTy κ) [.ref (ra), .int (nI b), .int (x), .ref oa] (OUTW κ oa fo ++ (SW κ Sa g ++ (RC ra (Sa 0) f9 h9 a9 b9 p9 o9))) (S := Unit) (fun _ => some (.int (nI 1))) (fun _ => True) (fun _ => OUTW κ oa fo ++ (SW κ Sa g ++ (RC ra (Sa 0) f9 h9 a9 b9 p9 o9))) 1 6 := by
  refine zH_of (cc := cL_passages) (maxL := 5) (rt := some .int) (hh := [(0, 10, 13, 19)]) [(0, .ref (ra)), (1, .int (nI b)), (2, .int (x)), (3, .ref (oa))] (by decide +kernel) rfl (Nat.le_of_ble_eq_true rfl) rfl ?_
  intro p e s m args below meth c A C hr9 hk htab hX
  have C : zC p s m args c cL_passages 5 wsL_passages RL D (zTy κ) A := C
  refine z_aload_n C dL_passages_0 3 rfl ?_
  refine z_iconst (v := nI 0) C dL_passages_1 (by decide) ?_
  refine z_aload_n C dL_passages_2 0 rfl ?_
  refine z_iload_n C dL_passages_3 1 rfl ?_
  refine z_iload_n C dL_passages_4 2 rfl ?_
  refine zx_catchV C (aX_ok adK adV) hX (mX5_passages_nb l D κ adK adV Sa g ra f9 h9 a9 b9 p9 o9 σ M b x hls hr hv hb hx) gL_passages_X5_passages rfl rfl rfl hdX5_passages ⟨(Nat.le_of_ble_eq_true rfl), (Nat.le_of_ble_eq_true rfl)⟩ 13 rfl rfl (OUTW κ oa fo) (fun _ => OUTW κ oa fo ++ (SW κ Sa g ++ (RC ra (Sa 0) f9 h9 a9 b9 p9 o9))) List.perm_append_comm (fun _ => List.perm_append_comm) rfl (Nat.le_of_ble_eq_true rfl) dL_passages_5 ⟨(Nat.le_of_ble_eq_true rfl), (Nat.le_of_ble_eq_true rfl)⟩ [] ⟨0, 10, 13, 19⟩ [] htab (fun z hz => absurd hz List.not_mem_nil) (by decide) (by decide) (name := eIB) (show Cond.classLink RL 19 eIB ∈ wsL_passages from by decide +kernel) (hX.2.2.1 (eIB, eIB) (by simp [nCs])) (fun u q hu => ?_)
  refine z_astore C [(4, .ref (q)), (0, .ref (ra)), (1, .int (nI b)), (2, .int (x)), (3, .ref (oa))] dL_passages_13 (by decide) rfl ?_
  refine z_iconst (v := nI 1) C dL_passages_15 (by decide) ?_
  exact zh_iret C hr9 hk u rfl hu (List.Perm.of_eq rfl) dL_passages_16 (Nat.le_of_ble_eq_true rfl) (Nat.le_of_ble_eq_true rfl)
set_option maxRecDepth 100000 in
set_option maxHeartbeats 4000000 in
theorem mL_ticksToEnd_ok (l : Launch) (D : va_G) (κ : Nat → ClassId) (Sa : Nat → Nat) (g : Nat → Nat → Nat) (ra f9 h9 a9 b9 p9 o9 : Nat) (σ : Nat → Nat) (M : Nat) (b : Nat) (hr : Rep g σ) (hv : Inv M σ) (hb : b < σ 2) (adK adV : Nat → Nat) (oa : Nat) (fo : Nat → Int64) : zH (aX adK adV) l yL_ticksToEnd wsL_ticksToEnd { frames := 3, cells := 0, slots := 0, locals := 65 } D (zTy κ) [.ref ra, .int (nI b), .ref oa] (OUTW κ oa fo ++ (SW κ Sa g ++ (RC ra (Sa 0) f9 h9 a9 b9 p9 o9))) (S := Unit) (fun _ => some (.int (nI 0))) (fun _ => True) (fun _ => OUTW κ oa (vp_updL fo 0 (((nI ((σ (5 + 6 * σ (65 + 5 * b + 2) + 0) - σ (65 + 5 * b + 3) + spd σ b - 1) / spd σ b))).toInt64)) ++ (SW κ Sa g ++ (RC ra (Sa 0) f9 h9 a9 b9 p9 o9))) 0 0 := by
  refine zH_of (cc := cL_ticksToEnd) (maxL := 4) (rt := some .int) (hh := [(0, 9, 12, 19)]) [(0, .ref (ra)), (1, .int (nI b)), (2, .ref (oa))] (by decide +kernel) rfl (Nat.le_of_ble_eq_true rfl) rfl ?_
  intro p e s m args below meth c A C hr9 hk htab hX
  have C : zC p s m args c cL_ticksToEnd 4 wsL_ticksToEnd RL D (zTy κ) A := C
  refine z_aload_n C dL_ticksToEnd_0 2 rfl ?_
  refine z_iconst (v := nI 0) C dL_ticksToEnd_1 (by decide) ?_
  refine z_aload_n C dL_ticksToEnd_2 0 rfl ?_
  refine z_iload_n C dL_ticksToEnd_3 1 rfl ?_
  refine z_callV C (mX5_ticksToEnd_ok l D κ Sa g ra f9 h9 a9 b9 p9 o9 σ M b hr hv hb) gL_ticksToEnd_X5_ticksToEnd rfl rfl rfl hdX5_ticksToEnd ⟨(Nat.le_of_ble_eq_true rfl), (Nat.le_of_ble_eq_true rfl)⟩ 13 rfl rfl (OUTW κ oa fo) (fun _ => OUTW κ oa fo ++ (SW κ Sa g ++ (RC ra (Sa 0) f9 h9 a9 b9 p9 o9))) List.perm_append_comm (fun _ => List.perm_append_comm) rfl (Nat.le_of_ble_eq_true rfl) dL_ticksToEnd_4 ⟨(Nat.le_of_ble_eq_true rfl), (Nat.le_of_ble_eq_true rfl)⟩ (fun u hu => ?_)
  refine z_i2l C dL_ticksToEnd_7 rfl ?_
  refine z_last C 0 4 rfl rfl (i := 0) (by decide) (by decide) dL_ticksToEnd_8 (OUTW κ oa (vp_updL fo 0 (((nI ((σ (5 + 6 * σ (65 + 5 * b + 2) + 0) - σ (65 + 5 * b + 3) + spd σ b - 1) / spd σ b))).toInt64)) ++ (SW κ Sa g ++ (RC ra (Sa 0) f9 h9 a9 b9 p9 o9))) rfl ?_
  refine z_goto (tgt := 15) C dL_ticksToEnd_9 (by decide) ?_
  refine z_iconst (v := nI 0) C dL_ticksToEnd_15 (by decide) ?_
  exact zh_iret C hr9 hk u rfl hu (List.Perm.of_eq rfl) dL_ticksToEnd_16 (Nat.le_of_ble_eq_true rfl) (Nat.le_of_ble_eq_true rfl)
theorem hdL_ticksToEnd : yL_ticksToEnd.cls ≠ "java/lang/invoke/MethodHandle" ∧ yL_ticksToEnd.cls ≠ "java/lang/invoke/VarHandle" ∧ (parseMethodDescriptor yL_ticksToEnd.desc).map (fun d => d.parameters.length) = some 3 := by decide +kernel
set_option maxRecDepth 100000 in
set_option maxHeartbeats 4000000 in
theorem mL_ticksToEnd_no (l : Launch) (D : va_G) (κ : Nat → ClassId) (adK adV : Nat → Nat) (Sa : Nat → Nat) (g : Nat → Nat → Nat) (ra f9 h9 a9 b9 p9 o9 : Nat) (σ : Nat → Nat) (M : Nat) (x : Int32) (hls : l.stackTraces = false) (hr : Rep g σ) (hv : Inv M σ) (hx : isB (σ 2) x = false) (oa : Nat) (fo : Nat → Int64) : zH (aX adK adV) l yL_ticksToEnd wsL_ticksToEnd { frames := 8, cells := 1, slots := 6, locals := 126 } D (zTy κ) [.ref (ra), .int (x), .ref oa] (OUTW κ oa fo ++ (SW κ Sa g ++ (RC ra (Sa 0) f9 h9 a9 b9 p9 o9))) (S := Unit) (fun _ => some (.int (nI 1))) (fun _ => True) (fun _ => OUTW κ oa fo ++ (SW κ Sa g ++ (RC ra (Sa 0) f9 h9 a9 b9 p9 o9))) 1 6 := by
  refine zH_of (cc := cL_ticksToEnd) (maxL := 4) (rt := some .int) (hh := [(0, 9, 12, 19)]) [(0, .ref (ra)), (1, .int (x)), (2, .ref (oa))] (by decide +kernel) rfl (Nat.le_of_ble_eq_true rfl) rfl ?_
  intro p e s m args below meth c A C hr9 hk htab hX
  have C : zC p s m args c cL_ticksToEnd 4 wsL_ticksToEnd RL D (zTy κ) A := C
  refine z_aload_n C dL_ticksToEnd_0 2 rfl ?_
  refine z_iconst (v := nI 0) C dL_ticksToEnd_1 (by decide) ?_
  refine z_aload_n C dL_ticksToEnd_2 0 rfl ?_
  refine z_iload_n C dL_ticksToEnd_3 1 rfl ?_
  refine zx_catchV C (aX_ok adK adV) hX (mX5_ticksToEnd_no l D κ adK adV Sa g ra f9 h9 a9 b9 p9 o9 σ M x hls hr hv hx) gL_ticksToEnd_X5_ticksToEnd rfl rfl rfl hdX5_ticksToEnd ⟨(Nat.le_of_ble_eq_true rfl), (Nat.le_of_ble_eq_true rfl)⟩ 13 rfl rfl (OUTW κ oa fo) (fun _ => OUTW κ oa fo ++ (SW κ Sa g ++ (RC ra (Sa 0) f9 h9 a9 b9 p9 o9))) List.perm_append_comm (fun _ => List.perm_append_comm) rfl (Nat.le_of_ble_eq_true rfl) dL_ticksToEnd_4 ⟨(Nat.le_of_ble_eq_true rfl), (Nat.le_of_ble_eq_true rfl)⟩ [] ⟨0, 9, 12, 19⟩ [] htab (fun z hz => absurd hz List.not_mem_nil) (by decide) (by decide) (name := eIB) (show Cond.classLink RL 19 eIB ∈ wsL_ticksToEnd from by decide +kernel) (hX.2.2.1 (eIB, eIB) (by simp [nCs])) (fun u q hu => ?_)
  refine z_astore_n C [(3, .ref (q)), (0, .ref (ra)), (1, .int (x)), (2, .ref (oa))] dL_ticksToEnd_12 (by decide) rfl ?_
  refine z_iconst (v := nI 1) C dL_ticksToEnd_13 (by decide) ?_
  exact zh_iret C hr9 hk u rfl hu (List.Perm.of_eq rfl) dL_ticksToEnd_14 (Nat.le_of_ble_eq_true rfl) (Nat.le_of_ble_eq_true rfl)
set_option maxRecDepth 100000 in
set_option maxHeartbeats 4000000 in
theorem mL_trainAhead_ok (l : Launch) (D : va_G) (κ : Nat → ClassId) (Sa : Nat → Nat) (g : Nat → Nat → Nat) (ra f9 h9 a9 b9 p9 o9 : Nat) (σ : Nat → Nat) (M : Nat) (b : Nat) (hr : Rep g σ) (hv : Inv M σ) (hb : b < σ 2) (adK adV : Nat → Nat) (oa : Nat) (fo : Nat → Int64) : zH (aX adK adV) l yL_trainAhead wsL_trainAhead { frames := 2, cells := 0, slots := 0, locals := 44 } D (zTy κ) [.ref ra, .int (nI b), .ref oa] (OUTW κ oa fo ++ (SW κ Sa g ++ (RC ra (Sa 0) f9 h9 a9 b9 p9 o9))) (S := Unit) (fun _ => some (.int (nI 0))) (fun _ => True) (fun _ => OUTW κ oa (vp_updL fo 0 (((tI (ahT σ b))).toInt64)) ++ (SW κ Sa g ++ (RC ra (Sa 0) f9 h9 a9 b9 p9 o9))) 0 0 := by
  refine zH_of (cc := cL_trainAhead) (maxL := 4) (rt := some .int) (hh := [(0, 9, 12, 19)]) [(0, .ref (ra)), (1, .int (nI b)), (2, .ref (oa))] (by decide +kernel) rfl (Nat.le_of_ble_eq_true rfl) rfl ?_
  intro p e s m args below meth c A C hr9 hk htab hX
  have C : zC p s m args c cL_trainAhead 4 wsL_trainAhead RL D (zTy κ) A := C
  refine z_aload_n C dL_trainAhead_0 2 rfl ?_
  refine z_iconst (v := nI 0) C dL_trainAhead_1 (by decide) ?_
  refine z_aload_n C dL_trainAhead_2 0 rfl ?_
  refine z_iload_n C dL_trainAhead_3 1 rfl ?_
  refine z_callV C (mX5_trainAhead_ok l D κ Sa g ra f9 h9 a9 b9 p9 o9 σ M b hr hv hb) gL_trainAhead_X5_trainAhead rfl rfl rfl hdX5_trainAhead ⟨(Nat.le_of_ble_eq_true rfl), (Nat.le_of_ble_eq_true rfl)⟩ 13 rfl rfl (OUTW κ oa fo) (fun _ => OUTW κ oa fo ++ (SW κ Sa g ++ (RC ra (Sa 0) f9 h9 a9 b9 p9 o9))) List.perm_append_comm (fun _ => List.perm_append_comm) rfl (Nat.le_of_ble_eq_true rfl) dL_trainAhead_4 ⟨(Nat.le_of_ble_eq_true rfl), (Nat.le_of_ble_eq_true rfl)⟩ (fun u hu => ?_)
  refine z_i2l C dL_trainAhead_7 rfl ?_
  refine z_last C 0 4 rfl rfl (i := 0) (by decide) (by decide) dL_trainAhead_8 (OUTW κ oa (vp_updL fo 0 (((tI (ahT σ b))).toInt64)) ++ (SW κ Sa g ++ (RC ra (Sa 0) f9 h9 a9 b9 p9 o9))) rfl ?_
  refine z_goto (tgt := 15) C dL_trainAhead_9 (by decide) ?_
  refine z_iconst (v := nI 0) C dL_trainAhead_15 (by decide) ?_
  exact zh_iret C hr9 hk u rfl hu (List.Perm.of_eq rfl) dL_trainAhead_16 (Nat.le_of_ble_eq_true rfl) (Nat.le_of_ble_eq_true rfl)
theorem hdL_trainAhead : yL_trainAhead.cls ≠ "java/lang/invoke/MethodHandle" ∧ yL_trainAhead.cls ≠ "java/lang/invoke/VarHandle" ∧ (parseMethodDescriptor yL_trainAhead.desc).map (fun d => d.parameters.length) = some 3 := by decide +kernel
set_option maxRecDepth 100000 in
set_option maxHeartbeats 4000000 in
theorem mL_trainAhead_no (l : Launch) (D : va_G) (κ : Nat → ClassId) (adK adV : Nat → Nat) (Sa : Nat → Nat) (g : Nat → Nat → Nat) (ra f9 h9 a9 b9 p9 o9 : Nat) (σ : Nat → Nat) (M : Nat) (x : Int32) (hls : l.stackTraces = false) (hr : Rep g σ) (hv : Inv M σ) (hx : isB (σ 2) x = false) (oa : Nat) (fo : Nat → Int64) : zH (aX adK adV) l yL_trainAhead wsL_trainAhead { frames := 8, cells := 1, slots := 6, locals := 126 } D (zTy κ) [.ref (ra), .int (x), .ref oa] (OUTW κ oa fo ++ (SW κ Sa g ++ (RC ra (Sa 0) f9 h9 a9 b9 p9 o9))) (S := Unit) (fun _ => some (.int (nI 1))) (fun _ => True) (fun _ => OUTW κ oa fo ++ (SW κ Sa g ++ (RC ra (Sa 0) f9 h9 a9 b9 p9 o9))) 1 6 := by
  refine zH_of (cc := cL_trainAhead) (maxL := 4) (rt := some .int) (hh := [(0, 9, 12, 19)]) [(0, .ref (ra)), (1, .int (x)), (2, .ref (oa))] (by decide +kernel) rfl (Nat.le_of_ble_eq_true rfl) rfl ?_
  intro p e s m args below meth c A C hr9 hk htab hX
  have C : zC p s m args c cL_trainAhead 4 wsL_trainAhead RL D (zTy κ) A := C
  refine z_aload_n C dL_trainAhead_0 2 rfl ?_
  refine z_iconst (v := nI 0) C dL_trainAhead_1 (by decide) ?_
  refine z_aload_n C dL_trainAhead_2 0 rfl ?_
  refine z_iload_n C dL_trainAhead_3 1 rfl ?_
  refine zx_catchV C (aX_ok adK adV) hX (mX5_trainAhead_no l D κ adK adV Sa g ra f9 h9 a9 b9 p9 o9 σ M x hls hr hv hx) gL_trainAhead_X5_trainAhead rfl rfl rfl hdX5_trainAhead ⟨(Nat.le_of_ble_eq_true rfl), (Nat.le_of_ble_eq_true rfl)⟩ 13 rfl rfl (OUTW κ oa fo) (fun _ => OUTW κ oa fo ++ (SW κ Sa g ++ (RC ra (Sa 0) f9 h9 a9 b9 p9 o9))) List.perm_append_comm (fun _ => List.perm_append_comm) rfl (Nat.le_of_ble_eq_true rfl) dL_trainAhead_4 ⟨(Nat.le_of_ble_eq_true rfl), (Nat.le_of_ble_eq_true rfl)⟩ [] ⟨0, 9, 12, 19⟩ [] htab (fun z hz => absurd hz List.not_mem_nil) (by decide) (by decide) (name := eIB) (show Cond.classLink RL 19 eIB ∈ wsL_trainAhead from by decide +kernel) (hX.2.2.1 (eIB, eIB) (by simp [nCs])) (fun u q hu => ?_)
  refine z_astore_n C [(3, .ref (q)), (0, .ref (ra)), (1, .int (x)), (2, .ref (oa))] dL_trainAhead_12 (by decide) rfl ?_
  refine z_iconst (v := nI 1) C dL_trainAhead_13 (by decide) ?_
  exact zh_iret C hr9 hk u rfl hu (List.Perm.of_eq rfl) dL_trainAhead_14 (Nat.le_of_ble_eq_true rfl) (Nat.le_of_ble_eq_true rfl)
set_option maxRecDepth 100000 in
set_option maxHeartbeats 4000000 in
theorem mL_clearBlocksAhead_ok (l : Launch) (D : va_G) (κ : Nat → ClassId) (Sa : Nat → Nat) (g : Nat → Nat → Nat) (ra f9 h9 a9 b9 p9 o9 : Nat) (σ : Nat → Nat) (M : Nat) (b : Nat) (hr : Rep g σ) (hv : Inv M σ) (hb : b < σ 2) (adK adV : Nat → Nat) (oa : Nat) (fo : Nat → Int64) : zH (aX adK adV) l yL_clearBlocksAhead wsL_clearBlocksAhead { frames := 2, cells := 0, slots := 0, locals := 44 } D (zTy κ) [.ref ra, .int (nI b), .ref oa] (OUTW κ oa fo ++ (SW κ Sa g ++ (RC ra (Sa 0) f9 h9 a9 b9 p9 o9))) (S := Unit) (fun _ => some (.int (nI 0))) (fun _ => True) (fun _ => OUTW κ oa (vp_updL fo 0 (((nI (cbA σ b))).toInt64)) ++ (SW κ Sa g ++ (RC ra (Sa 0) f9 h9 a9 b9 p9 o9))) 0 0 := by
  refine zH_of (cc := cL_clearBlocksAhead) (maxL := 4) (rt := some .int) (hh := [(0, 9, 12, 19)]) [(0, .ref (ra)), (1, .int (nI b)), (2, .ref (oa))] (by decide +kernel) rfl (Nat.le_of_ble_eq_true rfl) rfl ?_
  intro p e s m args below meth c A C hr9 hk htab hX
  have C : zC p s m args c cL_clearBlocksAhead 4 wsL_clearBlocksAhead RL D (zTy κ) A := C
  refine z_aload_n C dL_clearBlocksAhead_0 2 rfl ?_
  refine z_iconst (v := nI 0) C dL_clearBlocksAhead_1 (by decide) ?_
  refine z_aload_n C dL_clearBlocksAhead_2 0 rfl ?_
  refine z_iload_n C dL_clearBlocksAhead_3 1 rfl ?_
  refine z_callV C (mX5_clearBlocksAhead_ok l D κ Sa g ra f9 h9 a9 b9 p9 o9 σ M b hr hv hb) gL_clearBlocksAhead_X5_clearBlocksAhead rfl rfl rfl hdX5_clearBlocksAhead ⟨(Nat.le_of_ble_eq_true rfl), (Nat.le_of_ble_eq_true rfl)⟩ 13 rfl rfl (OUTW κ oa fo) (fun _ => OUTW κ oa fo ++ (SW κ Sa g ++ (RC ra (Sa 0) f9 h9 a9 b9 p9 o9))) List.perm_append_comm (fun _ => List.perm_append_comm) rfl (Nat.le_of_ble_eq_true rfl) dL_clearBlocksAhead_4 ⟨(Nat.le_of_ble_eq_true rfl), (Nat.le_of_ble_eq_true rfl)⟩ (fun u hu => ?_)
  refine z_i2l C dL_clearBlocksAhead_7 rfl ?_
  refine z_last C 0 4 rfl rfl (i := 0) (by decide) (by decide) dL_clearBlocksAhead_8 (OUTW κ oa (vp_updL fo 0 (((nI (cbA σ b))).toInt64)) ++ (SW κ Sa g ++ (RC ra (Sa 0) f9 h9 a9 b9 p9 o9))) rfl ?_
  refine z_goto (tgt := 15) C dL_clearBlocksAhead_9 (by decide) ?_
  refine z_iconst (v := nI 0) C dL_clearBlocksAhead_15 (by decide) ?_
  exact zh_iret C hr9 hk u rfl hu (List.Perm.of_eq rfl) dL_clearBlocksAhead_16 (Nat.le_of_ble_eq_true rfl) (Nat.le_of_ble_eq_true rfl)
theorem hdL_clearBlocksAhead : yL_clearBlocksAhead.cls ≠ "java/lang/invoke/MethodHandle" ∧ yL_clearBlocksAhead.cls ≠ "java/lang/invoke/VarHandle" ∧ (parseMethodDescriptor yL_clearBlocksAhead.desc).map (fun d => d.parameters.length) = some 3 := by decide +kernel
set_option maxRecDepth 100000 in
set_option maxHeartbeats 4000000 in
theorem mL_clearBlocksAhead_no (l : Launch) (D : va_G) (κ : Nat → ClassId) (adK adV : Nat → Nat) (Sa : Nat → Nat) (g : Nat → Nat → Nat) (ra f9 h9 a9 b9 p9 o9 : Nat) (σ : Nat → Nat) (M : Nat) (x : Int32) (hls : l.stackTraces = false) (hr : Rep g σ) (hv : Inv M σ) (hx : isB (σ 2) x = false) (oa : Nat) (fo : Nat → Int64) : zH (aX adK adV) l yL_clearBlocksAhead wsL_clearBlocksAhead { frames := 8, cells := 1, slots := 6, locals := 126 } D (zTy κ) [.ref (ra), .int (x), .ref oa] (OUTW κ oa fo ++ (SW κ Sa g ++ (RC ra (Sa 0) f9 h9 a9 b9 p9 o9))) (S := Unit) (fun _ => some (.int (nI 1))) (fun _ => True) (fun _ => OUTW κ oa fo ++ (SW κ Sa g ++ (RC ra (Sa 0) f9 h9 a9 b9 p9 o9))) 1 6 := by
  refine zH_of (cc := cL_clearBlocksAhead) (maxL := 4) (rt := some .int) (hh := [(0, 9, 12, 19)]) [(0, .ref (ra)), (1, .int (x)), (2, .ref (oa))] (by decide +kernel) rfl (Nat.le_of_ble_eq_true rfl) rfl ?_
  intro p e s m args below meth c A C hr9 hk htab hX
  have C : zC p s m args c cL_clearBlocksAhead 4 wsL_clearBlocksAhead RL D (zTy κ) A := C
  refine z_aload_n C dL_clearBlocksAhead_0 2 rfl ?_
  refine z_iconst (v := nI 0) C dL_clearBlocksAhead_1 (by decide) ?_
  refine z_aload_n C dL_clearBlocksAhead_2 0 rfl ?_
  refine z_iload_n C dL_clearBlocksAhead_3 1 rfl ?_
  refine zx_catchV C (aX_ok adK adV) hX (mX5_clearBlocksAhead_no l D κ adK adV Sa g ra f9 h9 a9 b9 p9 o9 σ M x hls hr hv hx) gL_clearBlocksAhead_X5_clearBlocksAhead rfl rfl rfl hdX5_clearBlocksAhead ⟨(Nat.le_of_ble_eq_true rfl), (Nat.le_of_ble_eq_true rfl)⟩ 13 rfl rfl (OUTW κ oa fo) (fun _ => OUTW κ oa fo ++ (SW κ Sa g ++ (RC ra (Sa 0) f9 h9 a9 b9 p9 o9))) List.perm_append_comm (fun _ => List.perm_append_comm) rfl (Nat.le_of_ble_eq_true rfl) dL_clearBlocksAhead_4 ⟨(Nat.le_of_ble_eq_true rfl), (Nat.le_of_ble_eq_true rfl)⟩ [] ⟨0, 9, 12, 19⟩ [] htab (fun z hz => absurd hz List.not_mem_nil) (by decide) (by decide) (name := eIB) (show Cond.classLink RL 19 eIB ∈ wsL_clearBlocksAhead from by decide +kernel) (hX.2.2.1 (eIB, eIB) (by simp [nCs])) (fun u q hu => ?_)
  refine z_astore_n C [(3, .ref (q)), (0, .ref (ra)), (1, .int (x)), (2, .ref (oa))] dL_clearBlocksAhead_12 (by decide) rfl ?_
  refine z_iconst (v := nI 1) C dL_clearBlocksAhead_13 (by decide) ?_
  exact zh_iret C hr9 hk u rfl hu (List.Perm.of_eq rfl) dL_clearBlocksAhead_14 (Nat.le_of_ble_eq_true rfl) (Nat.le_of_ble_eq_true rfl)
set_option maxRecDepth 100000 in
set_option maxHeartbeats 4000000 in
theorem mL_canEnter_ok (l : Launch) (D : va_G) (κ : Nat → ClassId) (Sa : Nat → Nat) (g : Nat → Nat → Nat) (ra f9 h9 a9 b9 p9 o9 : Nat) (σ : Nat → Nat) (M : Nat) (b : Nat) (hr : Rep g σ) (hv : Inv M σ) (hb : b < σ 2) (adK adV : Nat → Nat) (oa : Nat) (fo : Nat → Int64) : zH (aX adK adV) l yL_canEnter wsL_canEnter { frames := 3, cells := 0, slots := 0, locals := 63 } D (zTy κ) [.ref ra, .int (nI b), .ref oa] (OUTW κ oa fo ++ (SW κ Sa g ++ (RC ra (Sa 0) f9 h9 a9 b9 p9 o9))) (S := Unit) (fun _ => some (.int (nI 0))) (fun _ => True) (fun _ => OUTW κ oa (vp_updL fo 0 (((nI (mayE σ b).toNat)).toInt64)) ++ (SW κ Sa g ++ (RC ra (Sa 0) f9 h9 a9 b9 p9 o9))) 0 0 := by
  refine zH_of (cc := cL_canEnter) (maxL := 4) (rt := some .int) (hh := [(0, 16, 19, 19)]) [(0, .ref (ra)), (1, .int (nI b)), (2, .ref (oa))] (by decide +kernel) rfl (Nat.le_of_ble_eq_true rfl) rfl ?_
  intro p e s m args below meth c A C hr9 hk htab hX
  have C : zC p s m args c cL_canEnter 4 wsL_canEnter RL D (zTy κ) A := C
  refine z_aload_n C dL_canEnter_0 2 rfl ?_
  refine z_iconst (v := nI 0) C dL_canEnter_1 (by decide) ?_
  refine z_aload_n C dL_canEnter_2 0 rfl ?_
  refine z_iload_n C dL_canEnter_3 1 rfl ?_
  refine z_callV C (mX5_canEnter_ok l D κ Sa g ra f9 h9 a9 b9 p9 o9 σ M b hr hv hb) gL_canEnter_X5_canEnter rfl rfl rfl hdX5_canEnter ⟨(Nat.le_of_ble_eq_true rfl), (Nat.le_of_ble_eq_true rfl)⟩ 13 rfl rfl (OUTW κ oa fo) (fun _ => OUTW κ oa fo ++ (SW κ Sa g ++ (RC ra (Sa 0) f9 h9 a9 b9 p9 o9))) List.perm_append_comm (fun _ => List.perm_append_comm) rfl (Nat.le_of_ble_eq_true rfl) dL_canEnter_4 ⟨(Nat.le_of_ble_eq_true rfl), (Nat.le_of_ble_eq_true rfl)⟩ (fun u hu => ?_)
  refine zb_if_eq C 14 dL_canEnter_7 (by decide) (fun h1 => ?_) (fun h2 => ?_)
  · refine z_lconst (v := 0) C dL_canEnter_14 (by decide) ?_
    refine z_last C 0 4 rfl rfl (i := 0) (by decide) (by decide) dL_canEnter_15 (OUTW κ oa (vp_updL fo 0 (0)) ++ (SW κ Sa g ++ (RC ra (Sa 0) f9 h9 a9 b9 p9 o9))) rfl ?_
    refine z_goto (tgt := 22) C dL_canEnter_16 (by decide) ?_
    refine z_iconst (v := nI 0) C dL_canEnter_22 (by decide) ?_
    exact zh_iret C hr9 hk u rfl hu (List.Perm.of_eq (by rw [h1]; rfl)) dL_canEnter_23 (Nat.le_of_ble_eq_true rfl) (Nat.le_of_ble_eq_true rfl)
  · refine z_lconst (v := 1) C dL_canEnter_10 (by decide) ?_
    refine z_goto (tgt := 15) C dL_canEnter_11 (by decide) ?_
    refine z_last C 0 4 rfl rfl (i := 0) (by decide) (by decide) dL_canEnter_15 (OUTW κ oa (vp_updL fo 0 (1)) ++ (SW κ Sa g ++ (RC ra (Sa 0) f9 h9 a9 b9 p9 o9))) rfl ?_
    refine z_goto (tgt := 22) C dL_canEnter_16 (by decide) ?_
    refine z_iconst (v := nI 0) C dL_canEnter_22 (by decide) ?_
    exact zh_iret C hr9 hk u rfl hu (List.Perm.of_eq (by rw [h2]; rfl)) dL_canEnter_23 (Nat.le_of_ble_eq_true rfl) (Nat.le_of_ble_eq_true rfl)
theorem hdL_canEnter : yL_canEnter.cls ≠ "java/lang/invoke/MethodHandle" ∧ yL_canEnter.cls ≠ "java/lang/invoke/VarHandle" ∧ (parseMethodDescriptor yL_canEnter.desc).map (fun d => d.parameters.length) = some 3 := by decide +kernel
set_option maxRecDepth 100000 in
set_option maxHeartbeats 4000000 in
theorem mL_canEnter_no (l : Launch) (D : va_G) (κ : Nat → ClassId) (adK adV : Nat → Nat) (Sa : Nat → Nat) (g : Nat → Nat → Nat) (ra f9 h9 a9 b9 p9 o9 : Nat) (σ : Nat → Nat) (M : Nat) (x : Int32) (hls : l.stackTraces = false) (hr : Rep g σ) (hv : Inv M σ) (hx : isB (σ 2) x = false) (oa : Nat) (fo : Nat → Int64) : zH (aX adK adV) l yL_canEnter wsL_canEnter { frames := 8, cells := 1, slots := 6, locals := 124 } D (zTy κ) [.ref (ra), .int (x), .ref oa] (OUTW κ oa fo ++ (SW κ Sa g ++ (RC ra (Sa 0) f9 h9 a9 b9 p9 o9))) (S := Unit) (fun _ => some (.int (nI 1))) (fun _ => True) (fun _ => OUTW κ oa fo ++ (SW κ Sa g ++ (RC ra (Sa 0) f9 h9 a9 b9 p9 o9))) 1 6 := by
  refine zH_of (cc := cL_canEnter) (maxL := 4) (rt := some .int) (hh := [(0, 16, 19, 19)]) [(0, .ref (ra)), (1, .int (x)), (2, .ref (oa))] (by decide +kernel) rfl (Nat.le_of_ble_eq_true rfl) rfl ?_
  intro p e s m args below meth c A C hr9 hk htab hX
  have C : zC p s m args c cL_canEnter 4 wsL_canEnter RL D (zTy κ) A := C
  refine z_aload_n C dL_canEnter_0 2 rfl ?_
  refine z_iconst (v := nI 0) C dL_canEnter_1 (by decide) ?_
  refine z_aload_n C dL_canEnter_2 0 rfl ?_
  refine z_iload_n C dL_canEnter_3 1 rfl ?_
  refine zx_catchV C (aX_ok adK adV) hX (mX5_canEnter_no l D κ adK adV Sa g ra f9 h9 a9 b9 p9 o9 σ M x hls hr hv hx) gL_canEnter_X5_canEnter rfl rfl rfl hdX5_canEnter ⟨(Nat.le_of_ble_eq_true rfl), (Nat.le_of_ble_eq_true rfl)⟩ 13 rfl rfl (OUTW κ oa fo) (fun _ => OUTW κ oa fo ++ (SW κ Sa g ++ (RC ra (Sa 0) f9 h9 a9 b9 p9 o9))) List.perm_append_comm (fun _ => List.perm_append_comm) rfl (Nat.le_of_ble_eq_true rfl) dL_canEnter_4 ⟨(Nat.le_of_ble_eq_true rfl), (Nat.le_of_ble_eq_true rfl)⟩ [] ⟨0, 16, 19, 19⟩ [] htab (fun z hz => absurd hz List.not_mem_nil) (by decide) (by decide) (name := eIB) (show Cond.classLink RL 19 eIB ∈ wsL_canEnter from by decide +kernel) (hX.2.2.1 (eIB, eIB) (by simp [nCs])) (fun u q hu => ?_)
  refine z_astore_n C [(3, .ref (q)), (0, .ref (ra)), (1, .int (x)), (2, .ref (oa))] dL_canEnter_19 (by decide) rfl ?_
  refine z_iconst (v := nI 1) C dL_canEnter_20 (by decide) ?_
  exact zh_iret C hr9 hk u rfl hu (List.Perm.of_eq rfl) dL_canEnter_21 (Nat.le_of_ble_eq_true rfl) (Nat.le_of_ble_eq_true rfl)
end LH
