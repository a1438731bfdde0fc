section LH
set_option maxRecDepth 100000 in
set_option maxHeartbeats 4000000 in
theorem mL_setDanger_ok (l : Launch) (D : va_G) (κ : Nat → ClassId) (Sa Ha : Nat → Nat) (Hs : Nat → Nat → Nat) (hf : Nat → Option Nat) (ra f9 a9 b9 p9 o9 : Nat) (g : Nat → Nat → Nat) (nx ct : Nat) (gh : Nat → Nat → Nat → Nat) (σ : Nat → Nat) (M : Nat) (b : Nat) (hr : Rep g σ) (hv : Inv M σ) (hhf : ∀ j, j < 10 → hf j = some (Hs j 0)) (hnx : nx < 10) (hct : ct ≤ 10) (hb : b < σ 1) (h0 : 0 < σ (5 + 6 * b + 4)) (adK adV : Nat → Nat) (oa : Nat) (fo : Nat → Int64) : zH (aX adK adV) l yL_setDanger wsL_setDanger { frames := 4, cells := 0, slots := 0, locals := 91 } D (zTy κ) [.ref ra, .int (nI b), .ref oa] (OUTW κ oa fo ++ (kW κ Sa Ha Hs hf ra f9 a9 b9 p9 o9 g nx ct gh)) (S := (Nat → Nat → Nat) × (Nat → Nat → Nat)) (fun _ => some (.int (nI 0))) (fun u => Rep u.1 σ ∧ Rep u.2 (upN σ (5 + 6 * b + 4) 0)) (fun u => OUTW κ oa (vp_updL fo 0 (((nI (sumL (fun i => upN σ (5 + 6 * b + 4) 0 (5 + 6 * i + 4)) (upN σ (5 + 6 * b + 4) 0 1)))).toInt64)) ++ (kW κ Sa Ha Hs hf ra f9 a9 b9 p9 o9 u.2 (fwN nx) (mnN ct) (upS gh nx u.1))) 0 0 := by
  refine zH_of (cc := cL_setDanger) (maxL := 4) (rt := some .int) (hh := [(0, 9, 12, 19), (0, 9, 15, 13)]) [(0, .ref (ra)), (1, .int (nI b)), (2, .ref (oa))] (by decide +kernel) rfl (Nat.le_of_ble_eq_true rfl) rfl ?_
  intro p e s m args below meth c A C hr9 hk htab hX
  have C : zC p s m args c cL_setDanger 4 wsL_setDanger RL D (zTy κ) A := C
  refine z_aload_n C dL_setDanger_0 2 rfl ?_
  refine z_iconst (v := nI 0) C dL_setDanger_1 (by decide) ?_
  refine z_aload_n C dL_setDanger_2 0 rfl ?_
  refine z_iload_n C dL_setDanger_3 1 rfl ?_
  refine z_callV C (mX5_setDanger_ok l D κ Sa Ha Hs hf ra f9 a9 b9 p9 o9 g nx ct gh σ M b hr hv hhf hnx hct hb h0) gL_setDanger_X5_setDanger rfl rfl rfl hdX5_setDanger ⟨(Nat.le_of_ble_eq_true rfl), (Nat.le_of_ble_eq_true rfl)⟩ 13 rfl rfl (OUTW κ oa fo) (fun u => OUTW κ oa fo ++ (kW κ Sa Ha Hs hf ra f9 a9 b9 p9 o9 u.2 (fwN nx) (mnN ct) (upS gh nx u.1))) List.perm_append_comm (fun _ => List.perm_append_comm) rfl (Nat.le_of_ble_eq_true rfl) dL_setDanger_4 ⟨(Nat.le_of_ble_eq_true rfl), (Nat.le_of_ble_eq_true rfl)⟩ (fun u hu => ?_)
  refine z_i2l C dL_setDanger_7 rfl ?_
  refine z_last C 0 4 rfl rfl (i := 0) (by decide) (by decide) dL_setDanger_8 (OUTW κ oa (vp_updL fo 0 (((nI (sumL (fun i => upN σ (5 + 6 * b + 4) 0 (5 + 6 * i + 4)) (upN σ (5 + 6 * b + 4) 0 1)))).toInt64)) ++ (kW κ Sa Ha Hs hf ra f9 a9 b9 p9 o9 u.2 (fwN nx) (mnN ct) (upS gh nx u.1))) rfl ?_
  refine z_goto (tgt := 18) C dL_setDanger_9 (by decide) ?_
  refine z_iconst (v := nI 0) C dL_setDanger_18 (by decide) ?_
  exact zh_iret C hr9 hk u rfl hu (List.Perm.of_eq rfl) dL_setDanger_19 (Nat.le_of_ble_eq_true rfl) (Nat.le_of_ble_eq_true rfl)
theorem hdL_setDanger : yL_setDanger.cls ≠ "java/lang/invoke/MethodHandle" ∧ yL_setDanger.cls ≠ "java/lang/invoke/VarHandle" ∧ (parseMethodDescriptor yL_setDanger.desc).map (fun d => d.parameters.length) = some 3 := by decide +kernel
set_option maxRecDepth 100000 in
set_option maxHeartbeats 4000000 in
theorem mL_setDanger_no (l : Launch) (D : va_G) (κ : Nat → ClassId) (adK adV : Nat → Nat) (Sa : Nat → Nat) (g : Nat → Nat → Nat) (ra f9 h9 a9 b9 p9 o9 : Nat) (σ : Nat → Nat) (M : Nat) (x : Int32) (hls : l.stackTraces = false) (hr : Rep g σ) (hv : Inv M σ) (hx : isB (σ 1) x = false) (oa : Nat) (fo : Nat → Int64) : zH (aX adK adV) l yL_setDanger wsL_setDanger { frames := 8, cells := 1, slots := 6, locals := 124 } D (zTy κ) [.ref (ra), .int (x), .ref oa] (OUTW κ oa fo ++ (SW κ Sa g ++ (RC ra (Sa 0) f9 h9 a9 b9 p9 o9))) (S := Unit) (fun _ => some (.int (nI 1))) (fun _ => True) (fun _ => OUTW κ oa fo ++ (SW κ Sa g ++ (RC ra (Sa 0) f9 h9 a9 b9 p9 o9))) 1 6 := by
  refine zH_of (cc := cL_setDanger) (maxL := 4) (rt := some .int) (hh := [(0, 9, 12, 19), (0, 9, 15, 13)]) [(0, .ref (ra)), (1, .int (x)), (2, .ref (oa))] (by decide +kernel) rfl (Nat.le_of_ble_eq_true rfl) rfl ?_
  intro p e s m args below meth c A C hr9 hk htab hX
  have C : zC p s m args c cL_setDanger 4 wsL_setDanger RL D (zTy κ) A := C
  refine z_aload_n C dL_setDanger_0 2 rfl ?_
  refine z_iconst (v := nI 0) C dL_setDanger_1 (by decide) ?_
  refine z_aload_n C dL_setDanger_2 0 rfl ?_
  refine z_iload_n C dL_setDanger_3 1 rfl ?_
  refine zx_catchV C (aX_ok adK adV) hX (mX5_setDanger_no l D κ adK adV Sa g ra f9 h9 a9 b9 p9 o9 σ M x hls hr hv hx) gL_setDanger_X5_setDanger rfl rfl rfl hdX5_setDanger ⟨(Nat.le_of_ble_eq_true rfl), (Nat.le_of_ble_eq_true rfl)⟩ 13 rfl rfl (OUTW κ oa fo) (fun _ => OUTW κ oa fo ++ (SW κ Sa g ++ (RC ra (Sa 0) f9 h9 a9 b9 p9 o9))) List.perm_append_comm (fun _ => List.perm_append_comm) rfl (Nat.le_of_ble_eq_true rfl) dL_setDanger_4 ⟨(Nat.le_of_ble_eq_true rfl), (Nat.le_of_ble_eq_true rfl)⟩ [] ⟨0, 9, 12, 19⟩ [⟨0, 9, 15, 13⟩] htab (fun z hz => absurd hz List.not_mem_nil) (by decide) (by decide) (name := eIB) (show Cond.classLink RL 19 eIB ∈ wsL_setDanger from by decide +kernel) (hX.2.2.1 (eIB, eIB) (by simp [nCs])) (fun u q hu => ?_)
  refine z_astore_n C [(3, .ref (q)), (0, .ref (ra)), (1, .int (x)), (2, .ref (oa))] dL_setDanger_12 (by decide) rfl ?_
  refine z_iconst (v := nI 1) C dL_setDanger_13 (by decide) ?_
  exact zh_iret C hr9 hk u rfl hu (List.Perm.of_eq rfl) dL_setDanger_14 (Nat.le_of_ble_eq_true rfl) (Nat.le_of_ble_eq_true rfl)
set_option maxRecDepth 100000 in
set_option maxHeartbeats 4000000 in
theorem mL_setDanger_bad (l : Launch) (D : va_G) (κ : Nat → ClassId) (adK adV : Nat → Nat) (Sa : Nat → Nat) (g : Nat → Nat → Nat) (ra f9 h9 a9 b9 p9 o9 : Nat) (σ : Nat → Nat) (M : Nat) (b : Nat) (hls : l.stackTraces = false) (hr : Rep g σ) (hv : Inv M σ) (hb : b < σ 1) (h0 : σ (5 + 6 * b + 4) = 0) (oa : Nat) (fo : Nat → Int64) : zH (aX adK adV) l yL_setDanger wsL_setDanger { frames := 7, cells := 1, slots := 6, locals := 124 } D (zTy κ) [.ref (ra), .int (nI b), .ref oa] (OUTW κ oa fo ++ (SW κ Sa g ++ (RC ra (Sa 0) f9 h9 a9 b9 p9 o9))) (S := Unit) (fun _ => some (.int (nI 2))) (fun _ => True) (fun _ => OUTW κ oa fo ++ (SW κ Sa g ++ (RC ra (Sa 0) f9 h9 a9 b9 p9 o9))) 1 6 := by
  refine zH_of (cc := cL_setDanger) (maxL := 4) (rt := some .int) (hh := [(0, 9, 12, 19), (0, 9, 15, 13)]) [(0, .ref (ra)), (1, .int (nI b)), (2, .ref (oa))] (by decide +kernel) rfl (Nat.le_of_ble_eq_true rfl) rfl ?_
  intro p e s m args below meth c A C hr9 hk htab hX
  have C : zC p s m args c cL_setDanger 4 wsL_setDanger RL D (zTy κ) A := C
  refine z_aload_n C dL_setDanger_0 2 rfl ?_
  refine z_iconst (v := nI 0) C dL_setDanger_1 (by decide) ?_
  refine z_aload_n C dL_setDanger_2 0 rfl ?_
  refine z_iload_n C dL_setDanger_3 1 rfl ?_
  refine zx_catchV C (aX_ok adK adV) hX (mX5_setDanger_bad l D κ adK adV Sa g ra f9 h9 a9 b9 p9 o9 σ M b hls hr hv hb h0) gL_setDanger_X5_setDanger rfl rfl rfl hdX5_setDanger ⟨(Nat.le_of_ble_eq_true rfl), (Nat.le_of_ble_eq_true rfl)⟩ 13 rfl rfl (OUTW κ oa fo) (fun _ => OUTW κ oa fo ++ (SW κ Sa g ++ (RC ra (Sa 0) f9 h9 a9 b9 p9 o9))) List.perm_append_comm (fun _ => List.perm_append_comm) rfl (Nat.le_of_ble_eq_true rfl) dL_setDanger_4 ⟨(Nat.le_of_ble_eq_true rfl), (Nat.le_of_ble_eq_true rfl)⟩ [⟨0, 9, 12, 19⟩] ⟨0, 9, 15, 13⟩ [] htab (fun z hz => by
      simp only [List.mem_cons, List.not_mem_nil, or_false] at hz
      rcases hz with rfl
      · exact Or.inr ⟨by decide, eIB, by decide +kernel, hX.2.2.2.1 (eIS, eIB) (by simp [nNs])⟩) (by decide) (by decide) (name := eIS) (show Cond.classLink RL 13 eIS ∈ wsL_setDanger from by decide +kernel) (hX.2.2.1 (eIS, eIS) (by simp [nCs])) (fun u q hu => ?_)
  refine z_astore_n C [(3, .ref (q)), (0, .ref (ra)), (1, .int (nI b)), (2, .ref (oa))] dL_setDanger_15 (by decide) rfl ?_
  refine z_iconst (v := nI 2) C dL_setDanger_16 (by decide) ?_
  exact zh_iret C hr9 hk u rfl hu (List.Perm.of_eq rfl) dL_setDanger_17 (Nat.le_of_ble_eq_true rfl) (Nat.le_of_ble_eq_true rfl)
set_option maxRecDepth 100000 in
set_option maxHeartbeats 4000000 in
theorem mL_repair_ok (l : Launch) (D : va_G) (κ : Nat → ClassId) (Sa Ha : Nat → Nat) (Hs : Nat → Nat → Nat) (hf : Nat → Option Nat) (ra f9 a9 b9 p9 o9 : Nat) (g : Nat → Nat → Nat) (nx ct : Nat) (gh : Nat → Nat → Nat → Nat) (σ : Nat → Nat) (M : Nat) (b : Nat) (hr : Rep g σ) (hv : Inv M σ) (hhf : ∀ j, j < 10 → hf j = some (Hs j 0)) (hnx : nx < 10) (hct : ct ≤ 10) (hb : b < σ 1) (h0 : trAt σ b = 0) (adK adV : Nat → Nat) (oa : Nat) (fo : Nat → Int64) : zH (aX adK adV) l yL_repair wsL_repair { frames := 4, cells := 0, slots := 0, locals := 92 } D (zTy κ) [.ref ra, .int (nI b), .ref oa] (OUTW κ oa fo ++ (kW κ Sa Ha Hs hf ra f9 a9 b9 p9 o9 g nx ct gh)) (S := (Nat → Nat → Nat) × (Nat → Nat → Nat)) (fun _ => some (.int (nI 0))) (fun u => Rep u.1 σ ∧ Rep u.2 (upN σ (5 + 6 * b + 1) 0)) (fun u => OUTW κ oa (vp_updL fo 0 (((nI (σ (5 + 6 * b + 1)))).toInt64)) ++ (kW κ Sa Ha Hs hf ra f9 a9 b9 p9 o9 u.2 (fwN nx) (mnN ct) (upS gh nx u.1))) 0 0 := by
  refine zH_of (cc := cL_repair) (maxL := 4) (rt := some .int) (hh := [(0, 9, 12, 19), (0, 9, 15, 13)]) [(0, .ref (ra)), (1, .int (nI b)), (2, .ref (oa))] (by decide +kernel) rfl (Nat.le_of_ble_eq_true rfl) rfl ?_
  intro p e s m args below meth c A C hr9 hk htab hX
  have C : zC p s m args c cL_repair 4 wsL_repair RL D (zTy κ) A := C
  refine z_aload_n C dL_repair_0 2 rfl ?_
  refine z_iconst (v := nI 0) C dL_repair_1 (by decide) ?_
  refine z_aload_n C dL_repair_2 0 rfl ?_
  refine z_iload_n C dL_repair_3 1 rfl ?_
  refine z_callV C (mX5_repair_ok l D κ Sa Ha Hs hf ra f9 a9 b9 p9 o9 g nx ct gh σ M b hr hv hhf hnx hct hb h0) gL_repair_X5_repair rfl rfl rfl hdX5_repair ⟨(Nat.le_of_ble_eq_true rfl), (Nat.le_of_ble_eq_true rfl)⟩ 13 rfl rfl (OUTW κ oa fo) (fun u => OUTW κ oa fo ++ (kW κ Sa Ha Hs hf ra f9 a9 b9 p9 o9 u.2 (fwN nx) (mnN ct) (upS gh nx u.1))) List.perm_append_comm (fun _ => List.perm_append_comm) rfl (Nat.le_of_ble_eq_true rfl) dL_repair_4 ⟨(Nat.le_of_ble_eq_true rfl), (Nat.le_of_ble_eq_true rfl)⟩ (fun u hu => ?_)
  refine z_i2l C dL_repair_7 rfl ?_
  refine z_last C 0 4 rfl rfl (i := 0) (by decide) (by decide) dL_repair_8 (OUTW κ oa (vp_updL fo 0 (((nI (σ (5 + 6 * b + 1)))).toInt64)) ++ (kW κ Sa Ha Hs hf ra f9 a9 b9 p9 o9 u.2 (fwN nx) (mnN ct) (upS gh nx u.1))) rfl ?_
  refine z_goto (tgt := 18) C dL_repair_9 (by decide) ?_
  refine z_iconst (v := nI 0) C dL_repair_18 (by decide) ?_
  exact zh_iret C hr9 hk u rfl hu (List.Perm.of_eq rfl) dL_repair_19 (Nat.le_of_ble_eq_true rfl) (Nat.le_of_ble_eq_true rfl)
theorem hdL_repair : yL_repair.cls ≠ "java/lang/invoke/MethodHandle" ∧ yL_repair.cls ≠ "java/lang/invoke/VarHandle" ∧ (parseMethodDescriptor yL_repair.desc).map (fun d => d.parameters.length) = some 3 := by decide +kernel
set_option maxRecDepth 100000 in
set_option maxHeartbeats 4000000 in
theorem mL_repair_no (l : Launch) (D : va_G) (κ : Nat → ClassId) (adK adV : Nat → Nat) (Sa : Nat → Nat) (g : Nat → Nat → Nat) (ra f9 h9 a9 b9 p9 o9 : Nat) (σ : Nat → Nat) (M : Nat) (x : Int32) (hls : l.stackTraces = false) (hr : Rep g σ) (hv : Inv M σ) (hx : isB (σ 1) x = false) (oa : Nat) (fo : Nat → Int64) : zH (aX adK adV) l yL_repair wsL_repair { frames := 8, cells := 1, slots := 6, locals := 125 } D (zTy κ) [.ref (ra), .int (x), .ref oa] (OUTW κ oa fo ++ (SW κ Sa g ++ (RC ra (Sa 0) f9 h9 a9 b9 p9 o9))) (S := Unit) (fun _ => some (.int (nI 1))) (fun _ => True) (fun _ => OUTW κ oa fo ++ (SW κ Sa g ++ (RC ra (Sa 0) f9 h9 a9 b9 p9 o9))) 1 6 := by
  refine zH_of (cc := cL_repair) (maxL := 4) (rt := some .int) (hh := [(0, 9, 12, 19), (0, 9, 15, 13)]) [(0, .ref (ra)), (1, .int (x)), (2, .ref (oa))] (by decide +kernel) rfl (Nat.le_of_ble_eq_true rfl) rfl ?_
  intro p e s m args below meth c A C hr9 hk htab hX
  have C : zC p s m args c cL_repair 4 wsL_repair RL D (zTy κ) A := C
  refine z_aload_n C dL_repair_0 2 rfl ?_
  refine z_iconst (v := nI 0) C dL_repair_1 (by decide) ?_
  refine z_aload_n C dL_repair_2 0 rfl ?_
  refine z_iload_n C dL_repair_3 1 rfl ?_
  refine zx_catchV C (aX_ok adK adV) hX (mX5_repair_no l D κ adK adV Sa g ra f9 h9 a9 b9 p9 o9 σ M x hls hr hv hx) gL_repair_X5_repair rfl rfl rfl hdX5_repair ⟨(Nat.le_of_ble_eq_true rfl), (Nat.le_of_ble_eq_true rfl)⟩ 13 rfl rfl (OUTW κ oa fo) (fun _ => OUTW κ oa fo ++ (SW κ Sa g ++ (RC ra (Sa 0) f9 h9 a9 b9 p9 o9))) List.perm_append_comm (fun _ => List.perm_append_comm) rfl (Nat.le_of_ble_eq_true rfl) dL_repair_4 ⟨(Nat.le_of_ble_eq_true rfl), (Nat.le_of_ble_eq_true rfl)⟩ [] ⟨0, 9, 12, 19⟩ [⟨0, 9, 15, 13⟩] htab (fun z hz => absurd hz List.not_mem_nil) (by decide) (by decide) (name := eIB) (show Cond.classLink RL 19 eIB ∈ wsL_repair from by decide +kernel) (hX.2.2.1 (eIB, eIB) (by simp [nCs])) (fun u q hu => ?_)
  refine z_astore_n C [(3, .ref (q)), (0, .ref (ra)), (1, .int (x)), (2, .ref (oa))] dL_repair_12 (by decide) rfl ?_
  refine z_iconst (v := nI 1) C dL_repair_13 (by decide) ?_
  exact zh_iret C hr9 hk u rfl hu (List.Perm.of_eq rfl) dL_repair_14 (Nat.le_of_ble_eq_true rfl) (Nat.le_of_ble_eq_true rfl)
set_option maxRecDepth 100000 in
set_option maxHeartbeats 4000000 in
theorem mL_repair_bad (l : Launch) (D : va_G) (κ : Nat → ClassId) (adK adV : Nat → Nat) (Sa : Nat → Nat) (g : Nat → Nat → Nat) (ra f9 h9 a9 b9 p9 o9 : Nat) (σ : Nat → Nat) (M : Nat) (b : Nat) (hls : l.stackTraces = false) (hr : Rep g σ) (hv : Inv M σ) (hb : b < σ 1) (h0 : trAt σ b ≠ 0) (oa : Nat) (fo : Nat → Int64) : zH (aX adK adV) l yL_repair wsL_repair { frames := 7, cells := 1, slots := 6, locals := 125 } D (zTy κ) [.ref (ra), .int (nI b), .ref oa] (OUTW κ oa fo ++ (SW κ Sa g ++ (RC ra (Sa 0) f9 h9 a9 b9 p9 o9))) (S := Unit) (fun _ => some (.int (nI 2))) (fun _ => True) (fun _ => OUTW κ oa fo ++ (SW κ Sa g ++ (RC ra (Sa 0) f9 h9 a9 b9 p9 o9))) 1 6 := by
  refine zH_of (cc := cL_repair) (maxL := 4) (rt := some .int) (hh := [(0, 9, 12, 19), (0, 9, 15, 13)]) [(0, .ref (ra)), (1, .int (nI b)), (2, .ref (oa))] (by decide +kernel) rfl (Nat.le_of_ble_eq_true rfl) rfl ?_
  intro p e s m args below meth c A C hr9 hk htab hX
  have C : zC p s m args c cL_repair 4 wsL_repair RL D (zTy κ) A := C
  refine z_aload_n C dL_repair_0 2 rfl ?_
  refine z_iconst (v := nI 0) C dL_repair_1 (by decide) ?_
  refine z_aload_n C dL_repair_2 0 rfl ?_
  refine z_iload_n C dL_repair_3 1 rfl ?_
  refine zx_catchV C (aX_ok adK adV) hX (mX5_repair_bad l D κ adK adV Sa g ra f9 h9 a9 b9 p9 o9 σ M b hls hr hv hb h0) gL_repair_X5_repair rfl rfl rfl hdX5_repair ⟨(Nat.le_of_ble_eq_true rfl), (Nat.le_of_ble_eq_true rfl)⟩ 13 rfl rfl (OUTW κ oa fo) (fun _ => OUTW κ oa fo ++ (SW κ Sa g ++ (RC ra (Sa 0) f9 h9 a9 b9 p9 o9))) List.perm_append_comm (fun _ => List.perm_append_comm) rfl (Nat.le_of_ble_eq_true rfl) dL_repair_4 ⟨(Nat.le_of_ble_eq_true rfl), (Nat.le_of_ble_eq_true rfl)⟩ [⟨0, 9, 12, 19⟩] ⟨0, 9, 15, 13⟩ [] htab (fun z hz => by
      simp only [List.mem_cons, List.not_mem_nil, or_false] at hz
      rcases hz with rfl
      · exact Or.inr ⟨by decide, eIB, by decide +kernel, hX.2.2.2.1 (eIS, eIB) (by simp [nNs])⟩) (by decide) (by decide) (name := eIS) (show Cond.classLink RL 13 eIS ∈ wsL_repair from by decide +kernel) (hX.2.2.1 (eIS, eIS) (by simp [nCs])) (fun u q hu => ?_)
  refine z_astore_n C [(3, .ref (q)), (0, .ref (ra)), (1, .int (nI b)), (2, .ref (oa))] dL_repair_15 (by decide) rfl ?_
  refine z_iconst (v := nI 2) C dL_repair_16 (by decide) ?_
  exact zh_iret C hr9 hk u rfl hu (List.Perm.of_eq rfl) dL_repair_17 (Nat.le_of_ble_eq_true rfl) (Nat.le_of_ble_eq_true rfl)
set_option maxRecDepth 100000 in
set_option maxHeartbeats 4000000 in
theorem mL_removeWagons_ok (l : Launch) (D : va_G) (κ : Nat → ClassId) (Sa Ha : Nat → Nat) (Hs : Nat → Nat → Nat) (hf : Nat → Option Nat) (ra f9 a9 b9 p9 o9 : Nat) (g : Nat → Nat → Nat) (nx ct : Nat) (gh : Nat → Nat → Nat → Nat) (σ : Nat → Nat) (M : Nat) (b : Nat) (hr : Rep g σ) (hv : Inv M σ) (hhf : ∀ j, j < 10 → hf j = some (Hs j 0)) (hnx : nx < 10) (hct : ct ≤ 10) (hb : b < σ 1) (adK adV : Nat → Nat) (oa : Nat) (fo : Nat → Int64) : zH (aX adK adV) l yL_removeWagons wsL_removeWagons { frames := 4, cells := 0, slots := 0, locals := 92 } D (zTy κ) [.ref ra, .int (nI b), .ref oa] (OUTW κ oa fo ++ (kW κ Sa Ha Hs hf ra f9 a9 b9 p9 o9 g nx ct gh)) (S := (Nat → Nat → Nat) × (Nat → Nat → Nat)) (fun _ => some (.int (nI 0))) (fun u => Rep u.1 σ ∧ Rep u.2 (upN (upN σ (5 + 6 * b + 5) 0) 3 (σ 3 + σ (5 + 6 * b + 5)))) (fun u => OUTW κ oa (vp_updL fo 0 (((nI (σ (5 + 6 * b + 5)))).toInt64)) ++ (kW κ Sa Ha Hs hf ra f9 a9 b9 p9 o9 u.2 (fwN nx) (mnN ct) (upS gh nx u.1))) 0 0 := by
  refine zH_of (cc := cL_removeWagons) (maxL := 4) (rt := some .int) (hh := [(0, 9, 12, 19)]) [(0, .ref (ra)), (1, .int (nI b)), (2, .ref (oa))] (by decide +kernel) rfl (Nat.le_of_ble_eq_true rfl) rfl ?_
  intro p e s m args below meth c A C hr9 hk htab hX
  have C : zC p s m args c cL_removeWagons 4 wsL_removeWagons RL D (zTy κ) A := C
  refine z_aload_n C dL_removeWagons_0 2 rfl ?_
  refine z_iconst (v := nI 0) C dL_removeWagons_1 (by decide) ?_
  refine z_aload_n C dL_removeWagons_2 0 rfl ?_
  refine z_iload_n C dL_removeWagons_3 1 rfl ?_
  refine z_callV C (mX5_removeWagons_ok l D κ Sa Ha Hs hf ra f9 a9 b9 p9 o9 g nx ct gh σ M b hr hv hhf hnx hct hb) gL_removeWagons_X5_removeWagons rfl rfl rfl hdX5_removeWagons ⟨(Nat.le_of_ble_eq_true rfl), (Nat.le_of_ble_eq_true rfl)⟩ 13 rfl rfl (OUTW κ oa fo) (fun u => OUTW κ oa fo ++ (kW κ Sa Ha Hs hf ra f9 a9 b9 p9 o9 u.2 (fwN nx) (mnN ct) (upS gh nx u.1))) List.perm_append_comm (fun _ => List.perm_append_comm) rfl (Nat.le_of_ble_eq_true rfl) dL_removeWagons_4 ⟨(Nat.le_of_ble_eq_true rfl), (Nat.le_of_ble_eq_true rfl)⟩ (fun u hu => ?_)
  refine z_i2l C dL_removeWagons_7 rfl ?_
  refine z_last C 0 4 rfl rfl (i := 0) (by decide) (by decide) dL_removeWagons_8 (OUTW κ oa (vp_updL fo 0 (((nI (σ (5 + 6 * b + 5)))).toInt64)) ++ (kW κ Sa Ha Hs hf ra f9 a9 b9 p9 o9 u.2 (fwN nx) (mnN ct) (upS gh nx u.1))) rfl ?_
  refine z_goto (tgt := 15) C dL_removeWagons_9 (by decide) ?_
  refine z_iconst (v := nI 0) C dL_removeWagons_15 (by decide) ?_
  exact zh_iret C hr9 hk u rfl hu (List.Perm.of_eq rfl) dL_removeWagons_16 (Nat.le_of_ble_eq_true rfl) (Nat.le_of_ble_eq_true rfl)
theorem hdL_removeWagons : yL_removeWagons.cls ≠ "java/lang/invoke/MethodHandle" ∧ yL_removeWagons.cls ≠ "java/lang/invoke/VarHandle" ∧ (parseMethodDescriptor yL_removeWagons.desc).map (fun d => d.parameters.length) = some 3 := by decide +kernel
set_option maxRecDepth 100000 in
set_option maxHeartbeats 4000000 in
theorem mL_removeWagons_no (l : Launch) (D : va_G) (κ : Nat → ClassId) (adK adV : Nat → Nat) (Sa : Nat → Nat) (g : Nat → Nat → Nat) (ra f9 h9 a9 b9 p9 o9 : Nat) (σ : Nat → Nat) (M : Nat) (x : Int32) (hls : l.stackTraces = false) (hr : Rep g σ) (hv : Inv M σ) (hx : isB (σ 1) x = false) (oa : Nat) (fo : Nat → Int64) : zH (aX adK adV) l yL_removeWagons wsL_removeWagons { frames := 8, cells := 1, slots := 6, locals := 125 } D (zTy κ) [.ref (ra), .int (x), .ref oa] (OUTW κ oa fo ++ (SW κ Sa g ++ (RC ra (Sa 0) f9 h9 a9 b9 p9 o9))) (S := Unit) (fun _ => some (.int (nI 1))) (fun _ => True) (fun _ => OUTW κ oa fo ++ (SW κ Sa g ++ (RC ra (Sa 0) f9 h9 a9 b9 p9 o9))) 1 6 := by
  refine zH_of (cc := cL_removeWagons) (maxL := 4) (rt := some .int) (hh := [(0, 9, 12, 19)]) [(0, .ref (ra)), (1, .int (x)), (2, .ref (oa))] (by decide +kernel) rfl (Nat.le_of_ble_eq_true rfl) rfl ?_
  intro p e s m args below meth c A C hr9 hk htab hX
  have C : zC p s m args c cL_removeWagons 4 wsL_removeWagons RL D (zTy κ) A := C
  refine z_aload_n C dL_removeWagons_0 2 rfl ?_
  refine z_iconst (v := nI 0) C dL_removeWagons_1 (by decide) ?_
  refine z_aload_n C dL_removeWagons_2 0 rfl ?_
  refine z_iload_n C dL_removeWagons_3 1 rfl ?_
  refine zx_catchV C (aX_ok adK adV) hX (mX5_removeWagons_no l D κ adK adV Sa g ra f9 h9 a9 b9 p9 o9 σ M x hls hr hv hx) gL_removeWagons_X5_removeWagons rfl rfl rfl hdX5_removeWagons ⟨(Nat.le_of_ble_eq_true rfl), (Nat.le_of_ble_eq_true rfl)⟩ 13 rfl rfl (OUTW κ oa fo) (fun _ => OUTW κ oa fo ++ (SW κ Sa g ++ (RC ra (Sa 0) f9 h9 a9 b9 p9 o9))) List.perm_append_comm (fun _ => List.perm_append_comm) rfl (Nat.le_of_ble_eq_true rfl) dL_removeWagons_4 ⟨(Nat.le_of_ble_eq_true rfl), (Nat.le_of_ble_eq_true rfl)⟩ [] ⟨0, 9, 12, 19⟩ [] htab (fun z hz => absurd hz List.not_mem_nil) (by decide) (by decide) (name := eIB) (show Cond.classLink RL 19 eIB ∈ wsL_removeWagons from by decide +kernel) (hX.2.2.1 (eIB, eIB) (by simp [nCs])) (fun u q hu => ?_)
  refine z_astore_n C [(3, .ref (q)), (0, .ref (ra)), (1, .int (x)), (2, .ref (oa))] dL_removeWagons_12 (by decide) rfl ?_
  refine z_iconst (v := nI 1) C dL_removeWagons_13 (by decide) ?_
  exact zh_iret C hr9 hk u rfl hu (List.Perm.of_eq rfl) dL_removeWagons_14 (Nat.le_of_ble_eq_true rfl) (Nat.le_of_ble_eq_true rfl)
set_option maxRecDepth 100000 in
set_option maxHeartbeats 4000000 in
theorem mL_addWagons_ok (l : Launch) (D : va_G) (κ : Nat → ClassId) (Sa Ha : Nat → Nat) (Hs : Nat → Nat → Nat) (hf : Nat → Option Nat) (ra f9 a9 b9 p9 o9 : Nat) (g : Nat → Nat → Nat) (nx ct : Nat) (gh : Nat → Nat → Nat → Nat) (σ : Nat → Nat) (M : Nat) (b n : Nat) (hr : Rep g σ) (hv : Inv M σ) (hhf : ∀ j, j < 10 → hf j = some (Hs j 0)) (hnx : nx < 10) (hct : ct ≤ 10) (hb : b < σ 2) (h1n : 1 ≤ n) (h2n : n ≤ 11) (hl : σ (65 + 5 * b + 0) + n ≤ 12) (adK adV : Nat → Nat) (oa : Nat) (fo : Nat → Int64) : zH (aX adK adV) l yL_addWagons wsL_addWagons { frames := 4, cells := 0, slots := 0, locals := 92 } D (zTy κ) [.ref ra, .int (nI b), .int (nI n), .ref oa] (OUTW κ oa fo ++ (kW κ Sa Ha Hs hf ra f9 a9 b9 p9 o9 g nx ct gh)) (S := (Nat → Nat → Nat) × (Nat → Nat → Nat)) (fun _ => some (.int (nI 0))) (fun u => Rep u.1 σ ∧ Rep u.2 (upN (upN σ (65 + 5 * b + 0) (σ (65 + 5 * b + 0) + n)) 4 (σ 4 + n))) (fun u => OUTW κ oa (vp_updL fo 0 (((nI (σ (65 + 5 * b + 0) + n))).toInt64)) ++ (kW κ Sa Ha Hs hf ra f9 a9 b9 p9 o9 u.2 (fwN nx) (mnN ct) (upS gh nx u.1))) 0 0 := by
  refine zH_of (cc := cL_addWagons) (maxL := 5) (rt := some .int) (hh := [(0, 10, 13, 19), (0, 10, 17, 21), (0, 10, 21, 13)]) [(0, .ref (ra)), (1, .int (nI b)), (2, .int (nI n)), (3, .ref (oa))] (by decide +kernel) rfl (Nat.le_of_ble_eq_true rfl) rfl ?_
  intro p e s m args below meth c A C hr9 hk htab hX
  have C : zC p s m args c cL_addWagons 5 wsL_addWagons RL D (zTy κ) A := C
  refine z_aload_n C dL_addWagons_0 3 rfl ?_
  refine z_iconst (v := nI 0) C dL_addWagons_1 (by decide) ?_
  refine z_aload_n C dL_addWagons_2 0 rfl ?_
  refine z_iload_n C dL_addWagons_3 1 rfl ?_
  refine z_iload_n C dL_addWagons_4 2 rfl ?_
  refine z_callV C (mX5_addWagons_ok l D κ Sa Ha Hs hf ra f9 a9 b9 p9 o9 g nx ct gh σ M b n hr hv hhf hnx hct hb h1n h2n hl) gL_addWagons_X5_addWagons rfl rfl rfl hdX5_addWagons ⟨(Nat.le_of_ble_eq_true rfl), (Nat.le_of_ble_eq_true rfl)⟩ 13 rfl rfl (OUTW κ oa fo) (fun u => OUTW κ oa fo ++ (kW κ Sa Ha Hs hf ra f9 a9 b9 p9 o9 u.2 (fwN nx) (mnN ct) (upS gh nx u.1))) List.perm_append_comm (fun _ => List.perm_append_comm) rfl (Nat.le_of_ble_eq_true rfl) dL_addWagons_5 ⟨(Nat.le_of_ble_eq_true rfl), (Nat.le_of_ble_eq_true rfl)⟩ (fun u hu => ?_)
  refine z_i2l C dL_addWagons_8 rfl ?_
  refine z_last C 0 4 rfl rfl (i := 0) (by decide) (by decide) dL_addWagons_9 (OUTW κ oa (vp_updL fo 0 (((nI (σ (65 + 5 * b + 0) + n))).toInt64)) ++ (kW κ Sa Ha Hs hf ra f9 a9 b9 p9 o9 u.2 (fwN nx) (mnN ct) (upS gh nx u.1))) rfl ?_
  refine z_goto (tgt := 25) C dL_addWagons_10 (by decide) ?_
  refine z_iconst (v := nI 0) C dL_addWagons_25 (by decide) ?_
  exact zh_iret C hr9 hk u rfl hu (List.Perm.of_eq rfl) dL_addWagons_26 (Nat.le_of_ble_eq_true rfl) (Nat.le_of_ble_eq_true rfl)
theorem hdL_addWagons : yL_addWagons.cls ≠ "java/lang/invoke/MethodHandle" ∧ yL_addWagons.cls ≠ "java/lang/invoke/VarHandle" ∧ (parseMethodDescriptor yL_addWagons.desc).map (fun d => d.parameters.length) = some 4 := by decide +kernel
set_option maxRecDepth 100000 in
set_option maxHeartbeats 4000000 in
theorem mL_addWagons_no (l : Launch) (D : va_G) (κ : Nat → ClassId) (adK adV : Nat → Nat) (Sa : Nat → Nat) (g : Nat → Nat → Nat) (ra f9 h9 a9 b9 p9 o9 : Nat) (σ : Nat → Nat) (M : Nat) (x y : Int32) (hls : l.stackTraces = false) (hr : Rep g σ) (hv : Inv M σ) (hx : isB (σ 2) x = false) (oa : Nat) (fo : Nat → Int64) : zH (aX adK adV) l yL_addWagons wsL_addWagons { frames := 8, cells := 1, slots := 6, locals := 125 } D (zTy κ) [.ref (ra), .int (x), .int (y), .ref oa] (OUTW κ oa fo ++ (SW κ Sa g ++ (RC ra (Sa 0) f9 h9 a9 b9 p9 o9))) (S := Unit) (fun _ => some (.int (nI 1))) (fun _ => True) (fun _ => OUTW κ oa fo ++ (SW κ Sa g ++ (RC ra (Sa 0) f9 h9 a9 b9 p9 o9))) 1 6 := by
  refine zH_of (cc := cL_addWagons) (maxL := 5) (rt := some .int) (hh := [(0, 10, 13, 19), (0, 10, 17, 21), (0, 10, 21, 13)]) [(0, .ref (ra)), (1, .int (x)), (2, .int (y)), (3, .ref (oa))] (by decide +kernel) rfl (Nat.le_of_ble_eq_true rfl) rfl ?_
  intro p e s m args below meth c A C hr9 hk htab hX
  have C : zC p s m args c cL_addWagons 5 wsL_addWagons RL D (zTy κ) A := C
  refine z_aload_n C dL_addWagons_0 3 rfl ?_
  refine z_iconst (v := nI 0) C dL_addWagons_1 (by decide) ?_
  refine z_aload_n C dL_addWagons_2 0 rfl ?_
  refine z_iload_n C dL_addWagons_3 1 rfl ?_
  refine z_iload_n C dL_addWagons_4 2 rfl ?_
  refine zx_catchV C (aX_ok adK adV) hX (mX5_addWagons_no l D κ adK adV Sa g ra f9 h9 a9 b9 p9 o9 σ M x y hls hr hv hx) gL_addWagons_X5_addWagons rfl rfl rfl hdX5_addWagons ⟨(Nat.le_of_ble_eq_true rfl), (Nat.le_of_ble_eq_true rfl)⟩ 13 rfl rfl (OUTW κ oa fo) (fun _ => OUTW κ oa fo ++ (SW κ Sa g ++ (RC ra (Sa 0) f9 h9 a9 b9 p9 o9))) List.perm_append_comm (fun _ => List.perm_append_comm) rfl (Nat.le_of_ble_eq_true rfl) dL_addWagons_5 ⟨(Nat.le_of_ble_eq_true rfl), (Nat.le_of_ble_eq_true rfl)⟩ [] ⟨0, 10, 13, 19⟩ [⟨0, 10, 17, 21⟩, ⟨0, 10, 21, 13⟩] htab (fun z hz => absurd hz List.not_mem_nil) (by decide) (by decide) (name := eIB) (show Cond.classLink RL 19 eIB ∈ wsL_addWagons from by decide +kernel) (hX.2.2.1 (eIB, eIB) (by simp [nCs])) (fun u q hu => ?_)
  refine z_astore C [(4, .ref (q)), (0, .ref (ra)), (1, .int (x)), (2, .int (y)), (3, .ref (oa))] dL_addWagons_13 (by decide) rfl ?_
  refine z_iconst (v := nI 1) C dL_addWagons_15 (by decide) ?_
  exact zh_iret C hr9 hk u rfl hu (List.Perm.of_eq rfl) dL_addWagons_16 (Nat.le_of_ble_eq_true rfl) (Nat.le_of_ble_eq_true rfl)
set_option maxRecDepth 100000 in
set_option maxHeartbeats 4000000 in
theorem mL_addWagons_rng (l : Launch) (D : va_G) (κ : Nat → ClassId) (adK adV : Nat → Nat) (Sa : Nat → Nat) (g : Nat → Nat → Nat) (ra f9 h9 a9 b9 p9 o9 : Nat) (σ : Nat → Nat) (M : Nat) (b : Nat) (x : Int32) (hls : l.stackTraces = false) (hr : Rep g σ) (hv : Inv M σ) (hb : b < σ 2) (hx : inI x (nI 1) (nI 11) = false) (oa : Nat) (fo : Nat → Int64) : zH (aX adK adV) l yL_addWagons wsL_addWagons { frames := 7, cells := 1, slots := 6, locals := 125 } D (zTy κ) [.ref (ra), .int (nI b), .int (x), .ref oa] (OUTW κ oa fo ++ (SW κ Sa g ++ (RC ra (Sa 0) f9 h9 a9 b9 p9 o9))) (S := Unit) (fun _ => some (.int (nI 2))) (fun _ => True) (fun _ => OUTW κ oa fo ++ (SW κ Sa g ++ (RC ra (Sa 0) f9 h9 a9 b9 p9 o9))) 1 6 := by
  refine zH_of (cc := cL_addWagons) (maxL := 5) (rt := some .int) (hh := [(0, 10, 13, 19), (0, 10, 17, 21), (0, 10, 21, 13)]) [(0, .ref (ra)), (1, .int (nI b)), (2, .int (x)), (3, .ref (oa))] (by decide +kernel) rfl (Nat.le_of_ble_eq_true rfl) rfl ?_
  intro p e s m args below meth c A C hr9 hk htab hX
  have C : zC p s m args c cL_addWagons 5 wsL_addWagons RL D (zTy κ) A := C
  refine z_aload_n C dL_addWagons_0 3 rfl ?_
  refine z_iconst (v := nI 0) C dL_addWagons_1 (by decide) ?_
  refine z_aload_n C dL_addWagons_2 0 rfl ?_
  refine z_iload_n C dL_addWagons_3 1 rfl ?_
  refine z_iload_n C dL_addWagons_4 2 rfl ?_
  refine zx_catchV C (aX_ok adK adV) hX (mX5_addWagons_rng l D κ adK adV Sa g ra f9 h9 a9 b9 p9 o9 σ M b x hls hr hv hb hx) gL_addWagons_X5_addWagons rfl rfl rfl hdX5_addWagons ⟨(Nat.le_of_ble_eq_true rfl), (Nat.le_of_ble_eq_true rfl)⟩ 13 rfl rfl (OUTW κ oa fo) (fun _ => OUTW κ oa fo ++ (SW κ Sa g ++ (RC ra (Sa 0) f9 h9 a9 b9 p9 o9))) List.perm_append_comm (fun _ => List.perm_append_comm) rfl (Nat.le_of_ble_eq_true rfl) dL_addWagons_5 ⟨(Nat.le_of_ble_eq_true rfl), (Nat.le_of_ble_eq_true rfl)⟩ [⟨0, 10, 13, 19⟩] ⟨0, 10, 17, 21⟩ [⟨0, 10, 21, 13⟩] htab (fun z hz => by
      simp only [List.mem_cons, List.not_mem_nil, or_false] at hz
      rcases hz with rfl
      · exact Or.inr ⟨by decide, eIB, by decide +kernel, hX.2.2.2.1 (eIA, eIB) (by simp [nNs])⟩) (by decide) (by decide) (name := eIA) (show Cond.classLink RL 21 eIA ∈ wsL_addWagons from by decide +kernel) (hX.2.2.1 (eIA, eIA) (by simp [nCs])) (fun u q hu => ?_)
  refine z_astore C [(4, .ref (q)), (0, .ref (ra)), (1, .int (nI b)), (2, .int (x)), (3, .ref (oa))] dL_addWagons_17 (by decide) rfl ?_
  refine z_iconst (v := nI 2) C dL_addWagons_19 (by decide) ?_
  exact zh_iret C hr9 hk u rfl hu (List.Perm.of_eq rfl) dL_addWagons_20 (Nat.le_of_ble_eq_true rfl) (Nat.le_of_ble_eq_true rfl)
set_option maxRecDepth 100000 in
set_option maxHeartbeats 4000000 in
theorem mL_addWagons_lim (l : Launch) (D : va_G) (κ : Nat → ClassId) (adK adV : Nat → Nat) (Sa : Nat → Nat) (g : Nat → Nat → Nat) (ra f9 h9 a9 b9 p9 o9 : Nat) (σ : Nat → Nat) (M : Nat) (b n : Nat) (hls : l.stackTraces = false) (hr : Rep g σ) (hv : Inv M σ) (hb : b < σ 2) (h1n : 1 ≤ n) (h2n : n ≤ 11) (hl : 12 < σ (65 + 5 * b + 0) + n) (oa : Nat) (fo : Nat → Int64) : zH (aX adK adV) l yL_addWagons wsL_addWagons { frames := 7, cells := 1, slots := 6, locals := 125 } D (zTy κ) [.ref (ra), .int (nI b), .int (nI n), .ref oa] (OUTW κ oa fo ++ (SW κ Sa g ++ (RC ra (Sa 0) f9 h9 a9 b9 p9 o9))) (S := Unit) (fun _ => some (.int (nI 3))) (fun _ => True) (fun _ => OUTW κ oa fo ++ (SW κ Sa g ++ (RC ra (Sa 0) f9 h9 a9 b9 p9 o9))) 1 6 := by
  refine zH_of (cc := cL_addWagons) (maxL := 5) (rt := some .int) (hh := [(0, 10, 13, 19), (0, 10, 17, 21), (0, 10, 21, 13)]) [(0, .ref (ra)), (1, .int (nI b)), (2, .int (nI n)), (3, .ref (oa))] (by decide +kernel) rfl (Nat.le_of_ble_eq_true rfl) rfl ?_
  intro p e s m args below meth c A C hr9 hk htab hX
  have C : zC p s m args c cL_addWagons 5 wsL_addWagons RL D (zTy κ) A := C
  refine z_aload_n C dL_addWagons_0 3 rfl ?_
  refine z_iconst (v := nI 0) C dL_addWagons_1 (by decide) ?_
  refine z_aload_n C dL_addWagons_2 0 rfl ?_
  refine z_iload_n C dL_addWagons_3 1 rfl ?_
  refine z_iload_n C dL_addWagons_4 2 rfl ?_
  refine zx_catchV C (aX_ok adK adV) hX (mX5_addWagons_lim l D κ adK adV Sa g ra f9 h9 a9 b9 p9 o9 σ M b n hls hr hv hb h1n h2n hl) gL_addWagons_X5_addWagons rfl rfl rfl hdX5_addWagons ⟨(Nat.le_of_ble_eq_true rfl), (Nat.le_of_ble_eq_true rfl)⟩ 13 rfl rfl (OUTW κ oa fo) (fun _ => OUTW κ oa fo ++ (SW κ Sa g ++ (RC ra (Sa 0) f9 h9 a9 b9 p9 o9))) List.perm_append_comm (fun _ => List.perm_append_comm) rfl (Nat.le_of_ble_eq_true rfl) dL_addWagons_5 ⟨(Nat.le_of_ble_eq_true rfl), (Nat.le_of_ble_eq_true rfl)⟩ [⟨0, 10, 13, 19⟩, ⟨0, 10, 17, 21⟩] ⟨0, 10, 21, 13⟩ [] htab (fun z hz => by
      simp only [List.mem_cons, List.not_mem_nil, or_false] at hz
      rcases hz with rfl | rfl
      · exact Or.inr ⟨by decide, eIB, by decide +kernel, hX.2.2.2.1 (eIS, eIB) (by simp [nNs])⟩
      · exact Or.inr ⟨by decide, eIA, by decide +kernel, hX.2.2.2.1 (eIS, eIA) (by simp [nNs])⟩) (by decide) (by decide) (name := eIS) (show Cond.classLink RL 13 eIS ∈ wsL_addWagons from by decide +kernel) (hX.2.2.1 (eIS, eIS) (by simp [nCs])) (fun u q hu => ?_)
  refine z_astore C [(4, .ref (q)), (0, .ref (ra)), (1, .int (nI b)), (2, .int (nI n)), (3, .ref (oa))] dL_addWagons_21 (by decide) rfl ?_
  refine z_iconst (v := nI 3) C dL_addWagons_23 (by decide) ?_
  exact zh_iret C hr9 hk u rfl hu (List.Perm.of_eq rfl) dL_addWagons_24 (Nat.le_of_ble_eq_true rfl) (Nat.le_of_ble_eq_true rfl)
end LH
