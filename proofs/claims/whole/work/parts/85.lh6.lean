section LH
set_option maxRecDepth 100000 in
set_option maxHeartbeats 4000000 in
theorem mL_setTopSpeed_ok (l : Launch) (D : va_G) (κ : Nat → ClassId) (Sa Ha : Nat → Nat) (Hs : Nat → Nat → Nat) (hf : Nat → Option Nat) (ra f9 a9 b9 p9 o9 : Nat) (g : Nat → Nat → Nat) (nx ct : Nat) (gh : Nat → Nat → Nat → Nat) (σ : Nat → Nat) (M : Nat) (b n : Nat) (hr : Rep g σ) (hv : Inv M σ) (hhf : ∀ j, j < 10 → hf j = some (Hs j 0)) (hnx : nx < 10) (hct : ct ≤ 10) (hb : b < σ 2) (h1n : 1 ≤ n) (h2n : n ≤ 5) (adK adV : Nat → Nat) (oa : Nat) (fo : Nat → Int64) : zH (aX adK adV) l yL_setTopSpeed wsL_setTopSpeed { frames := 4, cells := 0, slots := 0, locals := 93 } D (zTy κ) [.ref ra, .int (nI b), .int (nI n), .ref oa] (OUTW κ oa fo ++ (kW κ Sa Ha Hs hf ra f9 a9 b9 p9 o9 g nx ct gh)) (S := (Nat → Nat → Nat) × (Nat → Nat → Nat)) (fun _ => some (.int (nI 0))) (fun u => Rep u.1 σ ∧ Rep u.2 (upN σ (65 + 5 * b + 1) n)) (fun u => OUTW κ oa (vp_updL fo 0 (((nI (σ (65 + 5 * b + 1)))).toInt64)) ++ (kW κ Sa Ha Hs hf ra f9 a9 b9 p9 o9 u.2 (fwN nx) (mnN ct) (upS gh nx u.1))) 0 0 := by
  refine zH_of (cc := cL_setTopSpeed) (maxL := 5) (rt := some .int) (hh := [(0, 10, 13, 19), (0, 10, 17, 21)]) [(0, .ref (ra)), (1, .int (nI b)), (2, .int (nI n)), (3, .ref (oa))] (by decide +kernel) rfl (Nat.le_of_ble_eq_true rfl) rfl ?_
  intro p e s m args below meth c A C hr9 hk htab hX
  have C : zC p s m args c cL_setTopSpeed 5 wsL_setTopSpeed RL D (zTy κ) A := C
  refine z_aload_n C dL_setTopSpeed_0 3 rfl ?_
  refine z_iconst (v := nI 0) C dL_setTopSpeed_1 (by decide) ?_
  refine z_aload_n C dL_setTopSpeed_2 0 rfl ?_
  refine z_iload_n C dL_setTopSpeed_3 1 rfl ?_
  refine z_iload_n C dL_setTopSpeed_4 2 rfl ?_
  refine z_callV C (mX5_setTopSpeed_ok l D κ Sa Ha Hs hf ra f9 a9 b9 p9 o9 g nx ct gh σ M b n hr hv hhf hnx hct hb h1n h2n) gL_setTopSpeed_X5_setTopSpeed rfl rfl rfl hdX5_setTopSpeed ⟨(Nat.le_of_ble_eq_true rfl), (Nat.le_of_ble_eq_true rfl)⟩ 13 rfl rfl (OUTW κ oa fo) (fun u => OUTW κ oa fo ++ (kW κ Sa Ha Hs hf ra f9 a9 b9 p9 o9 u.2 (fwN nx) (mnN ct) (upS gh nx u.1))) List.perm_append_comm (fun _ => List.perm_append_comm) rfl (Nat.le_of_ble_eq_true rfl) dL_setTopSpeed_5 ⟨(Nat.le_of_ble_eq_true rfl), (Nat.le_of_ble_eq_true rfl)⟩ (fun u hu => ?_)
  refine z_i2l C dL_setTopSpeed_8 rfl ?_
  refine z_last C 0 4 rfl rfl (i := 0) (by decide) (by decide) dL_setTopSpeed_9 (OUTW κ oa (vp_updL fo 0 (((nI (σ (65 + 5 * b + 1)))).toInt64)) ++ (kW κ Sa Ha Hs hf ra f9 a9 b9 p9 o9 u.2 (fwN nx) (mnN ct) (upS gh nx u.1))) rfl ?_
  refine z_goto (tgt := 21) C dL_setTopSpeed_10 (by decide) ?_
  refine z_iconst (v := nI 0) C dL_setTopSpeed_21 (by decide) ?_
  exact zh_iret C hr9 hk u rfl hu (List.Perm.of_eq rfl) dL_setTopSpeed_22 (Nat.le_of_ble_eq_true rfl) (Nat.le_of_ble_eq_true rfl)
theorem hdL_setTopSpeed : yL_setTopSpeed.cls ≠ "java/lang/invoke/MethodHandle" ∧ yL_setTopSpeed.cls ≠ "java/lang/invoke/VarHandle" ∧ (parseMethodDescriptor yL_setTopSpeed.desc).map (fun d => d.parameters.length) = some 4 := by decide +kernel
set_option maxRecDepth 100000 in
set_option maxHeartbeats 4000000 in
theorem mL_setTopSpeed_no (l : Launch) (D : va_G) (κ : Nat → ClassId) (adK adV : Nat → Nat) (Sa : Nat → Nat) (g : Nat → Nat → Nat) (ra f9 h9 a9 b9 p9 o9 : Nat) (σ : Nat → Nat) (M : Nat) (x y : Int32) (hls : l.stackTraces = false) (hr : Rep g σ) (hv : Inv M σ) (hx : isB (σ 2) x = false) (oa : Nat) (fo : Nat → Int64) : zH (aX adK adV) l yL_setTopSpeed wsL_setTopSpeed { frames := 8, cells := 1, slots := 6, locals := 126 } D (zTy κ) [.ref (ra), .int (x), .int (y), .ref oa] (OUTW κ oa fo ++ (SW κ Sa g ++ (RC ra (Sa 0) f9 h9 a9 b9 p9 o9))) (S := Unit) (fun _ => some (.int (nI 1))) (fun _ => True) (fun _ => OUTW κ oa fo ++ (SW κ Sa g ++ (RC ra (Sa 0) f9 h9 a9 b9 p9 o9))) 1 6 := by
  refine zH_of (cc := cL_setTopSpeed) (maxL := 5) (rt := some .int) (hh := [(0, 10, 13, 19), (0, 10, 17, 21)]) [(0, .ref (ra)), (1, .int (x)), (2, .int (y)), (3, .ref (oa))] (by decide +kernel) rfl (Nat.le_of_ble_eq_true rfl) rfl ?_
  intro p e s m args below meth c A C hr9 hk htab hX
  have C : zC p s m args c cL_setTopSpeed 5 wsL_setTopSpeed RL D (zTy κ) A := C
  refine z_aload_n C dL_setTopSpeed_0 3 rfl ?_
  refine z_iconst (v := nI 0) C dL_setTopSpeed_1 (by decide) ?_
  refine z_aload_n C dL_setTopSpeed_2 0 rfl ?_
  refine z_iload_n C dL_setTopSpeed_3 1 rfl ?_
  refine z_iload_n C dL_setTopSpeed_4 2 rfl ?_
  refine zx_catchV C (aX_ok adK adV) hX (mX5_setTopSpeed_no l D κ adK adV Sa g ra f9 h9 a9 b9 p9 o9 σ M x y hls hr hv hx) gL_setTopSpeed_X5_setTopSpeed rfl rfl rfl hdX5_setTopSpeed ⟨(Nat.le_of_ble_eq_true rfl), (Nat.le_of_ble_eq_true rfl)⟩ 13 rfl rfl (OUTW κ oa fo) (fun _ => OUTW κ oa fo ++ (SW κ Sa g ++ (RC ra (Sa 0) f9 h9 a9 b9 p9 o9))) List.perm_append_comm (fun _ => List.perm_append_comm) rfl (Nat.le_of_ble_eq_true rfl) dL_setTopSpeed_5 ⟨(Nat.le_of_ble_eq_true rfl), (Nat.le_of_ble_eq_true rfl)⟩ [] ⟨0, 10, 13, 19⟩ [⟨0, 10, 17, 21⟩] htab (fun z hz => absurd hz List.not_mem_nil) (by decide) (by decide) (name := eIB) (show Cond.classLink RL 19 eIB ∈ wsL_setTopSpeed from by decide +kernel) (hX.2.2.1 (eIB, eIB) (by simp [nCs])) (fun u q hu => ?_)
  refine z_astore C [(4, .ref (q)), (0, .ref (ra)), (1, .int (x)), (2, .int (y)), (3, .ref (oa))] dL_setTopSpeed_13 (by decide) rfl ?_
  refine z_iconst (v := nI 1) C dL_setTopSpeed_15 (by decide) ?_
  exact zh_iret C hr9 hk u rfl hu (List.Perm.of_eq rfl) dL_setTopSpeed_16 (Nat.le_of_ble_eq_true rfl) (Nat.le_of_ble_eq_true rfl)
set_option maxRecDepth 100000 in
set_option maxHeartbeats 4000000 in
theorem mL_setTopSpeed_rng (l : Launch) (D : va_G) (κ : Nat → ClassId) (adK adV : Nat → Nat) (Sa : Nat → Nat) (g : Nat → Nat → Nat) (ra f9 h9 a9 b9 p9 o9 : Nat) (σ : Nat → Nat) (M : Nat) (b : Nat) (x : Int32) (hls : l.stackTraces = false) (hr : Rep g σ) (hv : Inv M σ) (hb : b < σ 2) (hx : inI x (nI 1) (nI 5) = false) (oa : Nat) (fo : Nat → Int64) : zH (aX adK adV) l yL_setTopSpeed wsL_setTopSpeed { frames := 7, cells := 1, slots := 6, locals := 126 } D (zTy κ) [.ref (ra), .int (nI b), .int (x), .ref oa] (OUTW κ oa fo ++ (SW κ Sa g ++ (RC ra (Sa 0) f9 h9 a9 b9 p9 o9))) (S := Unit) (fun _ => some (.int (nI 2))) (fun _ => True) (fun _ => OUTW κ oa fo ++ (SW κ Sa g ++ (RC ra (Sa 0) f9 h9 a9 b9 p9 o9))) 1 6 := by
  refine zH_of (cc := cL_setTopSpeed) (maxL := 5) (rt := some .int) (hh := [(0, 10, 13, 19), (0, 10, 17, 21)]) [(0, .ref (ra)), (1, .int (nI b)), (2, .int (x)), (3, .ref (oa))] (by decide +kernel) rfl (Nat.le_of_ble_eq_true rfl) rfl ?_
  intro p e s m args below meth c A C hr9 hk htab hX
  have C : zC p s m args c cL_setTopSpeed 5 wsL_setTopSpeed RL D (zTy κ) A := C
  refine z_aload_n C dL_setTopSpeed_0 3 rfl ?_
  refine z_iconst (v := nI 0) C dL_setTopSpeed_1 (by decide) ?_
  refine z_aload_n C dL_setTopSpeed_2 0 rfl ?_
  refine z_iload_n C dL_setTopSpeed_3 1 rfl ?_
  refine z_iload_n C dL_setTopSpeed_4 2 rfl ?_
  refine zx_catchV C (aX_ok adK adV) hX (mX5_setTopSpeed_rng l D κ adK adV Sa g ra f9 h9 a9 b9 p9 o9 σ M b x hls hr hv hb hx) gL_setTopSpeed_X5_setTopSpeed rfl rfl rfl hdX5_setTopSpeed ⟨(Nat.le_of_ble_eq_true rfl), (Nat.le_of_ble_eq_true rfl)⟩ 13 rfl rfl (OUTW κ oa fo) (fun _ => OUTW κ oa fo ++ (SW κ Sa g ++ (RC ra (Sa 0) f9 h9 a9 b9 p9 o9))) List.perm_append_comm (fun _ => List.perm_append_comm) rfl (Nat.le_of_ble_eq_true rfl) dL_setTopSpeed_5 ⟨(Nat.le_of_ble_eq_true rfl), (Nat.le_of_ble_eq_true rfl)⟩ [⟨0, 10, 13, 19⟩] ⟨0, 10, 17, 21⟩ [] htab (fun z hz => by
      simp only [List.mem_cons, List.not_mem_nil, or_false] at hz
      rcases hz with rfl
      · exact Or.inr ⟨by decide, eIB, by decide +kernel, hX.2.2.2.1 (eIA, eIB) (by simp [nNs])⟩) (by decide) (by decide) (name := eIA) (show Cond.classLink RL 21 eIA ∈ wsL_setTopSpeed from by decide +kernel) (hX.2.2.1 (eIA, eIA) (by simp [nCs])) (fun u q hu => ?_)
  refine z_astore C [(4, .ref (q)), (0, .ref (ra)), (1, .int (nI b)), (2, .int (x)), (3, .ref (oa))] dL_setTopSpeed_17 (by decide) rfl ?_
  refine z_iconst (v := nI 2) C dL_setTopSpeed_19 (by decide) ?_
  exact zh_iret C hr9 hk u rfl hu (List.Perm.of_eq rfl) dL_setTopSpeed_20 (Nat.le_of_ble_eq_true rfl) (Nat.le_of_ble_eq_true rfl)
set_option maxRecDepth 100000 in
set_option maxHeartbeats 4000000 in
theorem mL_restore_ok (l : Launch) (D : va_G) (κ : Nat → ClassId) (Sa Ha : Nat → Nat) (Hs : Nat → Nat → Nat) (hf : Nat → Option Nat) (ra f9 a9 b9 p9 o9 : Nat) (g : Nat → Nat → Nat) (nx ct : Nat) (gh : Nat → Nat → Nat → Nat) (σ : Nat → Nat) (M : Nat) (Sl : Nat → Nat) (gl : Nat → Nat → Nat) (τ : Nat → Nat) (k : Nat) (hr : Rep g σ) (hv : Inv M σ) (hhf : ∀ j, j < 10 → hf j = some (Hs j 0)) (hnx : nx < 10) (hct : ct ≤ 10) (hrl : Rep gl τ) (hvl : Inv M τ) (hk2 : k < 2) (adK adV : Nat → Nat) (oa : Nat) (fo : Nat → Int64) : zH (aX adK adV) l yL_restore wsL_restore { frames := 4, cells := 0, slots := 0, locals := 92 } D (zTy κ) [.ref ra, .int (nI k), .ref oa] (OUTW κ oa fo ++ (SW κ Sa g ++ (RC ra (Sa 0) f9 (Ha 0) a9 b9 p9 o9 ++ (LW κ (slA k a9 b9) Sl gl 1 ++ (HO κ Ha hf nx ct ++ hW κ Hs gh 10))))) (S := (Nat → Nat → Nat) × (Nat → Nat → Nat)) (fun _ => some (.int (nI 0))) (fun u => Rep u.1 σ ∧ Rep u.2 τ) (fun u => OUTW κ oa (vp_updL fo 0 (((nI (τ 0))).toInt64)) ++ (SW κ Sa u.2 ++ (RC ra (Sa 0) f9 (Ha 0) a9 b9 p9 o9 ++ (LW κ (slA k a9 b9) Sl gl 1 ++ (HO κ Ha hf (fwN nx) (mnN ct) ++ hW κ Hs (upS gh nx u.1) 10))))) 0 0 := by
  refine zH_of (cc := cL_restore) (maxL := 4) (rt := some .int) (hh := [(0, 9, 12, 19), (0, 9, 15, 13)]) [(0, .ref (ra)), (1, .int (nI k)), (2, .ref (oa))] (by decide +kernel) rfl (Nat.le_of_ble_eq_true rfl) rfl ?_
  intro p e s m args below meth c A C hr9 hk htab hX
  have C : zC p s m args c cL_restore 4 wsL_restore RL D (zTy κ) A := C
  refine z_aload_n C dL_restore_0 2 rfl ?_
  refine z_iconst (v := nI 0) C dL_restore_1 (by decide) ?_
  refine z_aload_n C dL_restore_2 0 rfl ?_
  refine z_iload_n C dL_restore_3 1 rfl ?_
  refine z_callV C (mX5_restore_ok l D κ Sa Ha Hs hf ra f9 a9 b9 p9 o9 g nx ct gh σ M Sl gl τ k hr hv hhf hnx hct hrl hvl hk2) gL_restore_X5_restore rfl rfl rfl hdX5_restore ⟨(Nat.le_of_ble_eq_true rfl), (Nat.le_of_ble_eq_true rfl)⟩ 13 rfl rfl (OUTW κ oa fo) (fun u => OUTW κ oa fo ++ (SW κ Sa u.2 ++ (RC ra (Sa 0) f9 (Ha 0) a9 b9 p9 o9 ++ (LW κ (slA k a9 b9) Sl gl 1 ++ (HO κ Ha hf (fwN nx) (mnN ct) ++ hW κ Hs (upS gh nx u.1) 10))))) List.perm_append_comm (fun _ => List.perm_append_comm) rfl (Nat.le_of_ble_eq_true rfl) dL_restore_4 ⟨(Nat.le_of_ble_eq_true rfl), (Nat.le_of_ble_eq_true rfl)⟩ (fun u hu => ?_)
  refine z_i2l C dL_restore_7 rfl ?_
  refine z_last C 0 4 rfl rfl (i := 0) (by decide) (by decide) dL_restore_8 (OUTW κ oa (vp_updL fo 0 (((nI (τ 0))).toInt64)) ++ (SW κ Sa u.2 ++ (RC ra (Sa 0) f9 (Ha 0) a9 b9 p9 o9 ++ (LW κ (slA k a9 b9) Sl gl 1 ++ (HO κ Ha hf (fwN nx) (mnN ct) ++ hW κ Hs (upS gh nx u.1) 10))))) rfl ?_
  refine z_goto (tgt := 18) C dL_restore_9 (by decide) ?_
  refine z_iconst (v := nI 0) C dL_restore_18 (by decide) ?_
  exact zh_iret C hr9 hk u rfl hu (List.Perm.of_eq rfl) dL_restore_19 (Nat.le_of_ble_eq_true rfl) (Nat.le_of_ble_eq_true rfl)
theorem hdL_restore : yL_restore.cls ≠ "java/lang/invoke/MethodHandle" ∧ yL_restore.cls ≠ "java/lang/invoke/VarHandle" ∧ (parseMethodDescriptor yL_restore.desc).map (fun d => d.parameters.length) = some 3 := by decide +kernel
set_option maxRecDepth 100000 in
set_option maxHeartbeats 4000000 in
theorem mL_restore_no (l : Launch) (D : va_G) (κ : Nat → ClassId) (adK adV : Nat → Nat) (ra c9 f9 h9 a9 b9 p9 o9 : Nat) (x : Int32) (hls : l.stackTraces = false) (hx : inI x (nI 0) (nI 1) = false) (oa : Nat) (fo : Nat → Int64) : zH (aX adK adV) l yL_restore wsL_restore { frames := 8, cells := 1, slots := 6, locals := 125 } D (zTy κ) [.ref (ra), .int (x), .ref oa] (OUTW κ oa fo ++ (RC ra c9 f9 h9 a9 b9 p9 o9)) (S := Unit) (fun _ => some (.int (nI 1))) (fun _ => True) (fun _ => OUTW κ oa fo ++ (RC ra c9 f9 h9 a9 b9 p9 o9)) 1 6 := by
  refine zH_of (cc := cL_restore) (maxL := 4) (rt := some .int) (hh := [(0, 9, 12, 19), (0, 9, 15, 13)]) [(0, .ref (ra)), (1, .int (x)), (2, .ref (oa))] (by decide +kernel) rfl (Nat.le_of_ble_eq_true rfl) rfl ?_
  intro p e s m args below meth c A C hr9 hk htab hX
  have C : zC p s m args c cL_restore 4 wsL_restore RL D (zTy κ) A := C
  refine z_aload_n C dL_restore_0 2 rfl ?_
  refine z_iconst (v := nI 0) C dL_restore_1 (by decide) ?_
  refine z_aload_n C dL_restore_2 0 rfl ?_
  refine z_iload_n C dL_restore_3 1 rfl ?_
  refine zx_catchV C (aX_ok adK adV) hX (mX5_restore_no l D κ adK adV ra c9 f9 h9 a9 b9 p9 o9 x hls hx) gL_restore_X5_restore rfl rfl rfl hdX5_restore ⟨(Nat.le_of_ble_eq_true rfl), (Nat.le_of_ble_eq_true rfl)⟩ 0 rfl rfl (OUTW κ oa fo) (fun _ => OUTW κ oa fo ++ (RC ra c9 f9 h9 a9 b9 p9 o9)) List.perm_append_comm (fun _ => List.perm_append_comm) rfl (Nat.le_of_ble_eq_true rfl) dL_restore_4 ⟨(Nat.le_of_ble_eq_true rfl), (Nat.le_of_ble_eq_true rfl)⟩ [] ⟨0, 9, 12, 19⟩ [⟨0, 9, 15, 13⟩] htab (fun z hz => absurd hz List.not_mem_nil) (by decide) (by decide) (name := eIB) (show Cond.classLink RL 19 eIB ∈ wsL_restore from by decide +kernel) (hX.2.2.1 (eIB, eIB) (by simp [nCs])) (fun u q hu => ?_)
  refine z_astore_n C [(3, .ref (q)), (0, .ref (ra)), (1, .int (x)), (2, .ref (oa))] dL_restore_12 (by decide) rfl ?_
  refine z_iconst (v := nI 1) C dL_restore_13 (by decide) ?_
  exact zh_iret C hr9 hk u rfl hu (List.Perm.of_eq rfl) dL_restore_14 (Nat.le_of_ble_eq_true rfl) (Nat.le_of_ble_eq_true rfl)
set_option maxRecDepth 100000 in
set_option maxHeartbeats 4000000 in
theorem mL_restore_emp (l : Launch) (D : va_G) (κ : Nat → ClassId) (adK adV : Nat → Nat) (ra c9 f9 h9 a9 b9 p9 o9 : Nat) (x9 k : Nat) (hls : l.stackTraces = false) (hk2 : k < 2) (oa : Nat) (fo : Nat → Int64) : zH (aX adK adV) l yL_restore wsL_restore { frames := 7, cells := 1, slots := 6, locals := 125 } D (zTy κ) [.ref (ra), .int (nI k), .ref oa] (OUTW κ oa fo ++ (RC ra c9 f9 h9 a9 b9 p9 o9 ++ (SO (slA k a9 b9) x9 0))) (S := Unit) (fun _ => some (.int (nI 2))) (fun _ => True) (fun _ => OUTW κ oa fo ++ (RC ra c9 f9 h9 a9 b9 p9 o9 ++ (SO (slA k a9 b9) x9 0))) 1 6 := by
  refine zH_of (cc := cL_restore) (maxL := 4) (rt := some .int) (hh := [(0, 9, 12, 19), (0, 9, 15, 13)]) [(0, .ref (ra)), (1, .int (nI k)), (2, .ref (oa))] (by decide +kernel) rfl (Nat.le_of_ble_eq_true rfl) rfl ?_
  intro p e s m args below meth c A C hr9 hk htab hX
  have C : zC p s m args c cL_restore 4 wsL_restore RL D (zTy κ) A := C
  refine z_aload_n C dL_restore_0 2 rfl ?_
  refine z_iconst (v := nI 0) C dL_restore_1 (by decide) ?_
  refine z_aload_n C dL_restore_2 0 rfl ?_
  refine z_iload_n C dL_restore_3 1 rfl ?_
  refine zx_catchV C (aX_ok adK adV) hX (mX5_restore_emp l D κ adK adV ra c9 f9 h9 a9 b9 p9 o9 x9 k hls hk2) gL_restore_X5_restore rfl rfl rfl hdX5_restore ⟨(Nat.le_of_ble_eq_true rfl), (Nat.le_of_ble_eq_true rfl)⟩ 0 rfl rfl (OUTW κ oa fo) (fun _ => OUTW κ oa fo ++ (RC ra c9 f9 h9 a9 b9 p9 o9 ++ (SO (slA k a9 b9) x9 0))) List.perm_append_comm (fun _ => List.perm_append_comm) rfl (Nat.le_of_ble_eq_true rfl) dL_restore_4 ⟨(Nat.le_of_ble_eq_true rfl), (Nat.le_of_ble_eq_true rfl)⟩ [⟨0, 9, 12, 19⟩] ⟨0, 9, 15, 13⟩ [] htab (fun z hz => by
      simp only [List.mem_cons, List.not_mem_nil, or_false] at hz
      rcases hz with rfl
      · exact Or.inr ⟨by decide, eIB, by decide +kernel, hX.2.2.2.1 (eIS, eIB) (by simp [nNs])⟩) (by decide) (by decide) (name := eIS) (show Cond.classLink RL 13 eIS ∈ wsL_restore from by decide +kernel) (hX.2.2.1 (eIS, eIS) (by simp [nCs])) (fun u q hu => ?_)
  refine z_astore_n C [(3, .ref (q)), (0, .ref (ra)), (1, .int (nI k)), (2, .ref (oa))] dL_restore_15 (by decide) rfl ?_
  refine z_iconst (v := nI 2) C dL_restore_16 (by decide) ?_
  exact zh_iret C hr9 hk u rfl hu (List.Perm.of_eq rfl) dL_restore_17 (Nat.le_of_ble_eq_true rfl) (Nat.le_of_ble_eq_true rfl)
set_option maxRecDepth 100000 in
set_option maxHeartbeats 4000000 in
theorem mL_undo_ok (l : Launch) (D : va_G) (κ : Nat → ClassId) (Sa Ha : Nat → Nat) (Hs : Nat → Nat → Nat) (hf : Nat → Option Nat) (ra f9 a9 b9 p9 o9 : Nat) (g : Nat → Nat → Nat) (nx ct : Nat) (gh : Nat → Nat → Nat → Nat) (M : Nat) (τ : Nat → Nat) (hhf : ∀ j, j < 10 → hf j = some (Hs j 0)) (hnx : nx < 10) (hct : ct ≤ 10) (hc1 : 1 ≤ ct) (hrh : Rep (gh (bkN nx)) τ) (hvh : Inv M τ) (adK adV : Nat → Nat) (oa : Nat) (fo : Nat → Int64) : zH (aX adK adV) l yL_undo wsL_undo { frames := 4, cells := 0, slots := 0, locals := 91 } D (zTy κ) [.ref ra, .ref oa] (OUTW κ oa fo ++ (kW κ Sa Ha Hs hf ra f9 a9 b9 p9 o9 g nx ct gh)) (S := Nat → Nat → Nat) (fun _ => some (.int (nI 0))) (fun u => Rep u τ) (fun u => OUTW κ oa (vp_updL fo 0 (((nI (ct - 1))).toInt64)) ++ (kW κ Sa Ha Hs hf ra f9 a9 b9 p9 o9 u (bkN nx) (ct - 1) gh)) 0 0 := by
  refine zH_of (cc := cL_undo) (maxL := 3) (rt := some .int) (hh := [(0, 8, 11, 13)]) [(0, .ref (ra)), (1, .ref (oa))] (by decide +kernel) rfl (Nat.le_of_ble_eq_true rfl) rfl ?_
  intro p e s m args below meth c A C hr9 hk htab hX
  have C : zC p s m args c cL_undo 3 wsL_undo RL D (zTy κ) A := C
  refine z_aload_n C dL_undo_0 1 rfl ?_
  refine z_iconst (v := nI 0) C dL_undo_1 (by decide) ?_
  refine z_aload_n C dL_undo_2 0 rfl ?_
  refine z_callV C (mX5_undo_ok l D κ Sa Ha Hs hf ra f9 a9 b9 p9 o9 g nx ct gh M τ hhf hnx hct hc1 hrh hvh) gL_undo_X5_undo rfl rfl rfl hdX5_undo ⟨(Nat.le_of_ble_eq_true rfl), (Nat.le_of_ble_eq_true rfl)⟩ 13 rfl rfl (OUTW κ oa fo) (fun u => OUTW κ oa fo ++ (kW κ Sa Ha Hs hf ra f9 a9 b9 p9 o9 u (bkN nx) (ct - 1) gh)) List.perm_append_comm (fun _ => List.perm_append_comm) rfl (Nat.le_of_ble_eq_true rfl) dL_undo_3 ⟨(Nat.le_of_ble_eq_true rfl), (Nat.le_of_ble_eq_true rfl)⟩ (fun u hu => ?_)
  refine z_i2l C dL_undo_6 rfl ?_
  refine z_last C 0 4 rfl rfl (i := 0) (by decide) (by decide) dL_undo_7 (OUTW κ oa (vp_updL fo 0 (((nI (ct - 1))).toInt64)) ++ (kW κ Sa Ha Hs hf ra f9 a9 b9 p9 o9 u (bkN nx) (ct - 1) gh)) rfl ?_
  refine z_goto (tgt := 14) C dL_undo_8 (by decide) ?_
  refine z_iconst (v := nI 0) C dL_undo_14 (by decide) ?_
  exact zh_iret C hr9 hk u rfl hu (List.Perm.of_eq rfl) dL_undo_15 (Nat.le_of_ble_eq_true rfl) (Nat.le_of_ble_eq_true rfl)
theorem hdL_undo : yL_undo.cls ≠ "java/lang/invoke/MethodHandle" ∧ yL_undo.cls ≠ "java/lang/invoke/VarHandle" ∧ (parseMethodDescriptor yL_undo.desc).map (fun d => d.parameters.length) = some 2 := by decide +kernel
set_option maxRecDepth 100000 in
set_option maxHeartbeats 4000000 in
theorem mL_undo_no (l : Launch) (D : va_G) (κ : Nat → ClassId) (adK adV : Nat → Nat) (ra c9 f9 a9 b9 p9 o9 nx : Nat) (Ha : Nat → Nat) (hf : Nat → Option Nat) (hls : l.stackTraces = false) (oa : Nat) (fo : Nat → Int64) : zH (aX adK adV) l yL_undo wsL_undo { frames := 7, cells := 1, slots := 6, locals := 123 } D (zTy κ) [.ref (ra), .ref oa] (OUTW κ oa fo ++ (RC ra c9 f9 (Ha 0) a9 b9 p9 o9 ++ (HO κ Ha hf nx 0))) (S := Unit) (fun _ => some (.int (nI 1))) (fun _ => True) (fun _ => OUTW κ oa fo ++ (RC ra c9 f9 (Ha 0) a9 b9 p9 o9 ++ (HO κ Ha hf nx 0))) 1 6 := by
  refine zH_of (cc := cL_undo) (maxL := 3) (rt := some .int) (hh := [(0, 8, 11, 13)]) [(0, .ref (ra)), (1, .ref (oa))] (by decide +kernel) rfl (Nat.le_of_ble_eq_true rfl) rfl ?_
  intro p e s m args below meth c A C hr9 hk htab hX
  have C : zC p s m args c cL_undo 3 wsL_undo RL D (zTy κ) A := C
  refine z_aload_n C dL_undo_0 1 rfl ?_
  refine z_iconst (v := nI 0) C dL_undo_1 (by decide) ?_
  refine z_aload_n C dL_undo_2 0 rfl ?_
  refine zx_catchV C (aX_ok adK adV) hX (mX5_undo_no l D κ adK adV ra c9 f9 a9 b9 p9 o9 nx Ha hf hls) gL_undo_X5_undo rfl rfl rfl hdX5_undo ⟨(Nat.le_of_ble_eq_true rfl), (Nat.le_of_ble_eq_true rfl)⟩ 0 rfl rfl (OUTW κ oa fo) (fun _ => OUTW κ oa fo ++ (RC ra c9 f9 (Ha 0) a9 b9 p9 o9 ++ (HO κ Ha hf nx 0))) List.perm_append_comm (fun _ => List.perm_append_comm) rfl (Nat.le_of_ble_eq_true rfl) dL_undo_3 ⟨(Nat.le_of_ble_eq_true rfl), (Nat.le_of_ble_eq_true rfl)⟩ [] ⟨0, 8, 11, 13⟩ [] htab (fun z hz => absurd hz List.not_mem_nil) (by decide) (by decide) (name := eIS) (show Cond.classLink RL 13 eIS ∈ wsL_undo from by decide +kernel) (hX.2.2.1 (eIS, eIS) (by simp [nCs])) (fun u q hu => ?_)
  refine z_astore_n C [(2, .ref (q)), (0, .ref (ra)), (1, .ref (oa))] dL_undo_11 (by decide) rfl ?_
  refine z_iconst (v := nI 1) C dL_undo_12 (by decide) ?_
  exact zh_iret C hr9 hk u rfl hu (List.Perm.of_eq rfl) dL_undo_13 (Nat.le_of_ble_eq_true rfl) (Nat.le_of_ble_eq_true rfl)
set_option maxRecDepth 100000 in
set_option maxHeartbeats 4000000 in
theorem mL_save_ok (l : Launch) (D : va_G) (κ : Nat → ClassId) (Sa : Nat → Nat) (g : Nat → Nat → Nat) (ra f9 h9 a9 b9 p9 o9 : Nat) (σ : Nat → Nat) (M : Nat) (Sl : Nat → Nat) (gl : Nat → Nat → Nat) (fl k : Nat) (hr : Rep g σ) (hv : Inv M σ) (hk2 : k < 2) (adK adV : Nat → Nat) (oa : Nat) (fo : Nat → Int64) : zH (aX adK adV) l yL_save wsL_save { frames := 3, cells := 0, slots := 0, locals := 70 } D (zTy κ) [.ref ra, .int (nI k), .ref oa] (OUTW κ oa fo ++ (SW κ Sa g ++ (RC ra (Sa 0) f9 h9 a9 b9 p9 o9 ++ LW κ (slA k a9 b9) Sl gl fl))) (S := Nat → Nat → Nat) (fun _ => some (.int (nI 0))) (fun u => Rep u σ) (fun u => OUTW κ oa (vp_updL fo 0 (((nI (σ 0))).toInt64)) ++ (SW κ Sa g ++ (RC ra (Sa 0) f9 h9 a9 b9 p9 o9 ++ LW κ (slA k a9 b9) Sl u 1))) 0 0 := by
  refine zH_of (cc := cL_save) (maxL := 4) (rt := some .int) (hh := [(0, 9, 12, 19)]) [(0, .ref (ra)), (1, .int (nI k)), (2, .ref (oa))] (by decide +kernel) rfl (Nat.le_of_ble_eq_true rfl) rfl ?_
  intro p e s m args below meth c A C hr9 hk htab hX
  have C : zC p s m args c cL_save 4 wsL_save RL D (zTy κ) A := C
  refine z_aload_n C dL_save_0 2 rfl ?_
  refine z_iconst (v := nI 0) C dL_save_1 (by decide) ?_
  refine z_aload_n C dL_save_2 0 rfl ?_
  refine z_iload_n C dL_save_3 1 rfl ?_
  refine z_callV C (mX5_save_ok l D κ Sa g ra f9 h9 a9 b9 p9 o9 σ M Sl gl fl k hr hv hk2) gL_save_X5_save rfl rfl rfl hdX5_save ⟨(Nat.le_of_ble_eq_true rfl), (Nat.le_of_ble_eq_true rfl)⟩ 13 rfl rfl (OUTW κ oa fo) (fun u => OUTW κ oa fo ++ (SW κ Sa g ++ (RC ra (Sa 0) f9 h9 a9 b9 p9 o9 ++ LW κ (slA k a9 b9) Sl u 1))) List.perm_append_comm (fun _ => List.perm_append_comm) rfl (Nat.le_of_ble_eq_true rfl) dL_save_4 ⟨(Nat.le_of_ble_eq_true rfl), (Nat.le_of_ble_eq_true rfl)⟩ (fun u hu => ?_)
  refine z_i2l C dL_save_7 rfl ?_
  refine z_last C 0 4 rfl rfl (i := 0) (by decide) (by decide) dL_save_8 (OUTW κ oa (vp_updL fo 0 (((nI (σ 0))).toInt64)) ++ (SW κ Sa g ++ (RC ra (Sa 0) f9 h9 a9 b9 p9 o9 ++ LW κ (slA k a9 b9) Sl u 1))) rfl ?_
  refine z_goto (tgt := 15) C dL_save_9 (by decide) ?_
  refine z_iconst (v := nI 0) C dL_save_15 (by decide) ?_
  exact zh_iret C hr9 hk u rfl hu (List.Perm.of_eq rfl) dL_save_16 (Nat.le_of_ble_eq_true rfl) (Nat.le_of_ble_eq_true rfl)
theorem hdL_save : yL_save.cls ≠ "java/lang/invoke/MethodHandle" ∧ yL_save.cls ≠ "java/lang/invoke/VarHandle" ∧ (parseMethodDescriptor yL_save.desc).map (fun d => d.parameters.length) = some 3 := by decide +kernel
set_option maxRecDepth 100000 in
set_option maxHeartbeats 4000000 in
theorem mL_save_no (l : Launch) (D : va_G) (κ : Nat → ClassId) (adK adV : Nat → Nat) (ra c9 f9 h9 a9 b9 p9 o9 : Nat) (x : Int32) (hls : l.stackTraces = false) (hx : inI x (nI 0) (nI 1) = false) (oa : Nat) (fo : Nat → Int64) : zH (aX adK adV) l yL_save wsL_save { frames := 8, cells := 1, slots := 6, locals := 125 } D (zTy κ) [.ref (ra), .int (x), .ref oa] (OUTW κ oa fo ++ (RC ra c9 f9 h9 a9 b9 p9 o9)) (S := Unit) (fun _ => some (.int (nI 1))) (fun _ => True) (fun _ => OUTW κ oa fo ++ (RC ra c9 f9 h9 a9 b9 p9 o9)) 1 6 := by
  refine zH_of (cc := cL_save) (maxL := 4) (rt := some .int) (hh := [(0, 9, 12, 19)]) [(0, .ref (ra)), (1, .int (x)), (2, .ref (oa))] (by decide +kernel) rfl (Nat.le_of_ble_eq_true rfl) rfl ?_
  intro p e s m args below meth c A C hr9 hk htab hX
  have C : zC p s m args c cL_save 4 wsL_save RL D (zTy κ) A := C
  refine z_aload_n C dL_save_0 2 rfl ?_
  refine z_iconst (v := nI 0) C dL_save_1 (by decide) ?_
  refine z_aload_n C dL_save_2 0 rfl ?_
  refine z_iload_n C dL_save_3 1 rfl ?_
  refine zx_catchV C (aX_ok adK adV) hX (mX5_save_no l D κ adK adV ra c9 f9 h9 a9 b9 p9 o9 x hls hx) gL_save_X5_save rfl rfl rfl hdX5_save ⟨(Nat.le_of_ble_eq_true rfl), (Nat.le_of_ble_eq_true rfl)⟩ 0 rfl rfl (OUTW κ oa fo) (fun _ => OUTW κ oa fo ++ (RC ra c9 f9 h9 a9 b9 p9 o9)) List.perm_append_comm (fun _ => List.perm_append_comm) rfl (Nat.le_of_ble_eq_true rfl) dL_save_4 ⟨(Nat.le_of_ble_eq_true rfl), (Nat.le_of_ble_eq_true rfl)⟩ [] ⟨0, 9, 12, 19⟩ [] htab (fun z hz => absurd hz List.not_mem_nil) (by decide) (by decide) (name := eIB) (show Cond.classLink RL 19 eIB ∈ wsL_save from by decide +kernel) (hX.2.2.1 (eIB, eIB) (by simp [nCs])) (fun u q hu => ?_)
  refine z_astore_n C [(3, .ref (q)), (0, .ref (ra)), (1, .int (x)), (2, .ref (oa))] dL_save_12 (by decide) rfl ?_
  refine z_iconst (v := nI 1) C dL_save_13 (by decide) ?_
  exact zh_iret C hr9 hk u rfl hu (List.Perm.of_eq rfl) dL_save_14 (Nat.le_of_ble_eq_true rfl) (Nat.le_of_ble_eq_true rfl)
set_option maxRecDepth 100000 in
set_option maxHeartbeats 4000000 in
theorem mL_writeTrain_ok (l : Launch) (D : va_G) (κ : Nat → ClassId) (Sa Oa : Nat → Nat) (g : Nat → Nat → Nat) (ra f9 h9 a9 b9 p9 n : Nat) (ot : Nat → Nat) (σ : Nat → Nat) (M : Nat) (b : Nat) (hr : Rep g σ) (hv : Inv M σ) (hb : b < σ 2) (adK adV : Nat → Nat) (oa : Nat) (fo : Nat → Int64) : zH (aX adK adV) l yL_writeTrain wsL_writeTrain { frames := 3, cells := 0, slots := 0, locals := 64 } D (zTy κ) [.ref ra, .int (nI b), .ref oa] (OUTW κ oa fo ++ (SW κ Sa g ++ (RC ra (Sa 0) f9 h9 a9 b9 p9 (Oa 0) ++ OW κ Oa n ot))) (S := Unit) (fun _ => some (.int (nI 0))) (fun _ => True) (fun _ => OUTW κ oa (vp_updL fo 0 (((nI (wTrn σ (ot, 0) b).2)).toInt64)) ++ (SW κ Sa g ++ (RC ra (Sa 0) f9 h9 a9 b9 p9 (Oa 0) ++ OW κ Oa (wTrn σ (ot, 0) b).2 (wTrn σ (ot, 0) b).1))) 0 0 := by
  refine zH_of (cc := cL_writeTrain) (maxL := 4) (rt := some .int) (hh := [(0, 9, 12, 19)]) [(0, .ref (ra)), (1, .int (nI b)), (2, .ref (oa))] (by decide +kernel) rfl (Nat.le_of_ble_eq_true rfl) rfl ?_
  intro p e s m args below meth c A C hr9 hk htab hX
  have C : zC p s m args c cL_writeTrain 4 wsL_writeTrain RL D (zTy κ) A := C
  refine z_aload_n C dL_writeTrain_0 2 rfl ?_
  refine z_iconst (v := nI 0) C dL_writeTrain_1 (by decide) ?_
  refine z_aload_n C dL_writeTrain_2 0 rfl ?_
  refine z_iload_n C dL_writeTrain_3 1 rfl ?_
  refine z_callV C (mX5_writeTrain_ok l D κ Sa Oa g ra f9 h9 a9 b9 p9 n ot σ M b hr hv hb) gL_writeTrain_X5_writeTrain rfl rfl rfl hdX5_writeTrain ⟨(Nat.le_of_ble_eq_true rfl), (Nat.le_of_ble_eq_true rfl)⟩ 13 rfl rfl (OUTW κ oa fo) (fun _ => OUTW κ oa fo ++ (SW κ Sa g ++ (RC ra (Sa 0) f9 h9 a9 b9 p9 (Oa 0) ++ OW κ Oa (wTrn σ (ot, 0) b).2 (wTrn σ (ot, 0) b).1))) List.perm_append_comm (fun _ => List.perm_append_comm) rfl (Nat.le_of_ble_eq_true rfl) dL_writeTrain_4 ⟨(Nat.le_of_ble_eq_true rfl), (Nat.le_of_ble_eq_true rfl)⟩ (fun u hu => ?_)
  refine z_i2l C dL_writeTrain_7 rfl ?_
  refine z_last C 0 4 rfl rfl (i := 0) (by decide) (by decide) dL_writeTrain_8 (OUTW κ oa (vp_updL fo 0 (((nI (wTrn σ (ot, 0) b).2)).toInt64)) ++ (SW κ Sa g ++ (RC ra (Sa 0) f9 h9 a9 b9 p9 (Oa 0) ++ OW κ Oa (wTrn σ (ot, 0) b).2 (wTrn σ (ot, 0) b).1))) rfl ?_
  refine z_goto (tgt := 15) C dL_writeTrain_9 (by decide) ?_
  refine z_iconst (v := nI 0) C dL_writeTrain_15 (by decide) ?_
  exact zh_iret C hr9 hk u rfl hu (List.Perm.of_eq rfl) dL_writeTrain_16 (Nat.le_of_ble_eq_true rfl) (Nat.le_of_ble_eq_true rfl)
theorem hdL_writeTrain : yL_writeTrain.cls ≠ "java/lang/invoke/MethodHandle" ∧ yL_writeTrain.cls ≠ "java/lang/invoke/VarHandle" ∧ (parseMethodDescriptor yL_writeTrain.desc).map (fun d => d.parameters.length) = some 3 := by decide +kernel
set_option maxRecDepth 100000 in
set_option maxHeartbeats 4000000 in
theorem mL_writeTrain_no (l : Launch) (D : va_G) (κ : Nat → ClassId) (adK adV : Nat → Nat) (Sa : Nat → Nat) (g : Nat → Nat → Nat) (ra f9 h9 a9 b9 p9 o9 : Nat) (σ : Nat → Nat) (M : Nat) (x : Int32) (hls : l.stackTraces = false) (hr : Rep g σ) (hv : Inv M σ) (hx : isB (σ 2) x = false) (oa : Nat) (fo : Nat → Int64) : zH (aX adK adV) l yL_writeTrain wsL_writeTrain { frames := 8, cells := 1, slots := 6, locals := 125 } D (zTy κ) [.ref (ra), .int (x), .ref oa] (OUTW κ oa fo ++ (SW κ Sa g ++ (RC ra (Sa 0) f9 h9 a9 b9 p9 o9))) (S := Unit) (fun _ => some (.int (nI 1))) (fun _ => True) (fun _ => OUTW κ oa fo ++ (SW κ Sa g ++ (RC ra (Sa 0) f9 h9 a9 b9 p9 o9))) 1 6 := by
  refine zH_of (cc := cL_writeTrain) (maxL := 4) (rt := some .int) (hh := [(0, 9, 12, 19)]) [(0, .ref (ra)), (1, .int (x)), (2, .ref (oa))] (by decide +kernel) rfl (Nat.le_of_ble_eq_true rfl) rfl ?_
  intro p e s m args below meth c A C hr9 hk htab hX
  have C : zC p s m args c cL_writeTrain 4 wsL_writeTrain RL D (zTy κ) A := C
  refine z_aload_n C dL_writeTrain_0 2 rfl ?_
  refine z_iconst (v := nI 0) C dL_writeTrain_1 (by decide) ?_
  refine z_aload_n C dL_writeTrain_2 0 rfl ?_
  refine z_iload_n C dL_writeTrain_3 1 rfl ?_
  refine zx_catchV C (aX_ok adK adV) hX (mX5_writeTrain_no l D κ adK adV Sa g ra f9 h9 a9 b9 p9 o9 σ M x hls hr hv hx) gL_writeTrain_X5_writeTrain rfl rfl rfl hdX5_writeTrain ⟨(Nat.le_of_ble_eq_true rfl), (Nat.le_of_ble_eq_true rfl)⟩ 13 rfl rfl (OUTW κ oa fo) (fun _ => OUTW κ oa fo ++ (SW κ Sa g ++ (RC ra (Sa 0) f9 h9 a9 b9 p9 o9))) List.perm_append_comm (fun _ => List.perm_append_comm) rfl (Nat.le_of_ble_eq_true rfl) dL_writeTrain_4 ⟨(Nat.le_of_ble_eq_true rfl), (Nat.le_of_ble_eq_true rfl)⟩ [] ⟨0, 9, 12, 19⟩ [] htab (fun z hz => absurd hz List.not_mem_nil) (by decide) (by decide) (name := eIB) (show Cond.classLink RL 19 eIB ∈ wsL_writeTrain from by decide +kernel) (hX.2.2.1 (eIB, eIB) (by simp [nCs])) (fun u q hu => ?_)
  refine z_astore_n C [(3, .ref (q)), (0, .ref (ra)), (1, .int (x)), (2, .ref (oa))] dL_writeTrain_12 (by decide) rfl ?_
  refine z_iconst (v := nI 1) C dL_writeTrain_13 (by decide) ?_
  exact zh_iret C hr9 hk u rfl hu (List.Perm.of_eq rfl) dL_writeTrain_14 (Nat.le_of_ble_eq_true rfl) (Nat.le_of_ble_eq_true rfl)
end LH
