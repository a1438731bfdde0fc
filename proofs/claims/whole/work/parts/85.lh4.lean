section LH
set_option maxRecDepth 100000 in
set_option maxHeartbeats 4000000 in
theorem mL_blockAfter_ok (l : Launch) (D : va_G) (κ : Nat → ClassId) (Sf Sa : Nat → Nat) (f g : Nat → Nat → Nat) (ra h9 a9 b9 p9 o9 : Nat) (σ : Nat → Nat) (M : Nat) (b n : Nat) (hr : Rep g σ) (hv : Inv M σ) (hb : b < σ 2) (hn : n ≤ 200) (hM : M + 11 * n + 11 < 1073741824) (adK adV : Nat → Nat) (oa : Nat) (fo : Nat → Int64) : zH (aX adK adV) l yL_blockAfter wsL_blockAfter { frames := 5, cells := 0, slots := 0, locals := 114 } D (zTy κ) [.ref ra, .int (nI b), .int (nI n), .ref oa] (OUTW κ oa fo ++ (SW κ Sf f ++ (SW κ Sa g ++ RC ra (Sa 0) (Sf 0) h9 a9 b9 p9 o9))) (S := Nat → Nat → Nat) (fun _ => some (.int (nI 0))) (fun _ => True) (fun u => OUTW κ oa (vp_updL fo 0 (((nI (psS n σ (65 + 5 * b + 2)))).toInt64)) ++ (SW κ Sf u ++ (SW κ Sa g ++ RC ra (Sa 0) (Sf 0) h9 a9 b9 p9 o9))) 0 0 := by
  refine zH_of (cc := cL_blockAfter) (maxL := 5) (rt := some .int) (hh := [(0, 10, 13, 19), (0, 10, 17, 21)]) [(0, .ref (ra)), (1, .int (nI b)), (2, .int (nI n)), (3, .ref (oa))] (by decide +kernel) rfl (Nat.le_of_ble_eq_true rfl) rfl ?_
  intro p e s m args below meth c A C hr9 hk htab hX
  have C : zC p s m args c cL_blockAfter 5 wsL_blockAfter RL D (zTy κ) A := C
  refine z_aload_n C dL_blockAfter_0 3 rfl ?_
  refine z_iconst (v := nI 0) C dL_blockAfter_1 (by decide) ?_
  refine z_aload_n C dL_blockAfter_2 0 rfl ?_
  refine z_iload_n C dL_blockAfter_3 1 rfl ?_
  refine z_iload_n C dL_blockAfter_4 2 rfl ?_
  refine z_callV C (mX5_blockAfter_ok l D κ Sf Sa f g ra h9 a9 b9 p9 o9 σ M b n hr hv hb hn hM) gL_blockAfter_X5_blockAfter rfl rfl rfl hdX5_blockAfter ⟨(Nat.le_of_ble_eq_true rfl), (Nat.le_of_ble_eq_true rfl)⟩ 26 rfl rfl (OUTW κ oa fo) (fun u => OUTW κ oa fo ++ (SW κ Sf u ++ (SW κ Sa g ++ RC ra (Sa 0) (Sf 0) h9 a9 b9 p9 o9))) List.perm_append_comm (fun _ => List.perm_append_comm) rfl (Nat.le_of_ble_eq_true rfl) dL_blockAfter_5 ⟨(Nat.le_of_ble_eq_true rfl), (Nat.le_of_ble_eq_true rfl)⟩ (fun u hu => ?_)
  refine z_i2l C dL_blockAfter_8 rfl ?_
  refine z_last C 0 4 rfl rfl (i := 0) (by decide) (by decide) dL_blockAfter_9 (OUTW κ oa (vp_updL fo 0 (((nI (psS n σ (65 + 5 * b + 2)))).toInt64)) ++ (SW κ Sf u ++ (SW κ Sa g ++ RC ra (Sa 0) (Sf 0) h9 a9 b9 p9 o9))) rfl ?_
  refine z_goto (tgt := 21) C dL_blockAfter_10 (by decide) ?_
  refine z_iconst (v := nI 0) C dL_blockAfter_21 (by decide) ?_
  exact zh_iret C hr9 hk u rfl hu (List.Perm.of_eq rfl) dL_blockAfter_22 (Nat.le_of_ble_eq_true rfl) (Nat.le_of_ble_eq_true rfl)
theorem hdL_blockAfter : yL_blockAfter.cls ≠ "java/lang/invoke/MethodHandle" ∧ yL_blockAfter.cls ≠ "java/lang/invoke/VarHandle" ∧ (parseMethodDescriptor yL_blockAfter.desc).map (fun d => d.parameters.length) = some 4 := by decide +kernel
set_option maxRecDepth 100000 in
set_option maxHeartbeats 4000000 in
theorem mL_blockAfter_no (l : Launch) (D : va_G) (κ : Nat → ClassId) (adK adV : Nat → Nat) (Sf Sa : Nat → Nat) (f g : Nat → Nat → Nat) (ra h9 a9 b9 p9 o9 : Nat) (σ : Nat → Nat) (M : Nat) (x y : Int32) (hls : l.stackTraces = false) (hr : Rep g σ) (hv : Inv M σ) (hx : isB (σ 2) x = false) (oa : Nat) (fo : Nat → Int64) : zH (aX adK adV) l yL_blockAfter wsL_blockAfter { frames := 8, cells := 1, slots := 6, locals := 125 } D (zTy κ) [.ref (ra), .int (x), .int (y), .ref oa] (OUTW κ oa fo ++ (SW κ Sf f ++ (SW κ Sa g ++ (RC ra (Sa 0) (Sf 0) h9 a9 b9 p9 o9)))) (S := Unit) (fun _ => some (.int (nI 1))) (fun _ => True) (fun _ => OUTW κ oa fo ++ (SW κ Sf f ++ (SW κ Sa g ++ (RC ra (Sa 0) (Sf 0) h9 a9 b9 p9 o9)))) 1 6 := by
  refine zH_of (cc := cL_blockAfter) (maxL := 5) (rt := some .int) (hh := [(0, 10, 13, 19), (0, 10, 17, 21)]) [(0, .ref (ra)), (1, .int (x)), (2, .int (y)), (3, .ref (oa))] (by decide +kernel) rfl (Nat.le_of_ble_eq_true rfl) rfl ?_
  intro p e s m args below meth c A C hr9 hk htab hX
  have C : zC p s m args c cL_blockAfter 5 wsL_blockAfter RL D (zTy κ) A := C
  refine z_aload_n C dL_blockAfter_0 3 rfl ?_
  refine z_iconst (v := nI 0) C dL_blockAfter_1 (by decide) ?_
  refine z_aload_n C dL_blockAfter_2 0 rfl ?_
  refine z_iload_n C dL_blockAfter_3 1 rfl ?_
  refine z_iload_n C dL_blockAfter_4 2 rfl ?_
  refine zx_catchV C (aX_ok adK adV) hX (mX5_blockAfter_no l D κ adK adV Sf Sa f g ra h9 a9 b9 p9 o9 σ M x y hls hr hv hx) gL_blockAfter_X5_blockAfter rfl rfl rfl hdX5_blockAfter ⟨(Nat.le_of_ble_eq_true rfl), (Nat.le_of_ble_eq_true rfl)⟩ 26 rfl rfl (OUTW κ oa fo) (fun _ => OUTW κ oa fo ++ (SW κ Sf f ++ (SW κ Sa g ++ (RC ra (Sa 0) (Sf 0) h9 a9 b9 p9 o9)))) List.perm_append_comm (fun _ => List.perm_append_comm) rfl (Nat.le_of_ble_eq_true rfl) dL_blockAfter_5 ⟨(Nat.le_of_ble_eq_true rfl), (Nat.le_of_ble_eq_true rfl)⟩ [] ⟨0, 10, 13, 19⟩ [⟨0, 10, 17, 21⟩] htab (fun z hz => absurd hz List.not_mem_nil) (by decide) (by decide) (name := eIB) (show Cond.classLink RL 19 eIB ∈ wsL_blockAfter from by decide +kernel) (hX.2.2.1 (eIB, eIB) (by simp [nCs])) (fun u q hu => ?_)
  refine z_astore C [(4, .ref (q)), (0, .ref (ra)), (1, .int (x)), (2, .int (y)), (3, .ref (oa))] dL_blockAfter_13 (by decide) rfl ?_
  refine z_iconst (v := nI 1) C dL_blockAfter_15 (by decide) ?_
  exact zh_iret C hr9 hk u rfl hu (List.Perm.of_eq rfl) dL_blockAfter_16 (Nat.le_of_ble_eq_true rfl) (Nat.le_of_ble_eq_true rfl)
set_option maxRecDepth 100000 in
set_option maxHeartbeats 4000000 in
theorem mL_blockAfter_rng (l : Launch) (D : va_G) (κ : Nat → ClassId) (adK adV : Nat → Nat) (Sf Sa : Nat → Nat) (f g : Nat → Nat → Nat) (ra h9 a9 b9 p9 o9 : Nat) (σ : Nat → Nat) (M : Nat) (b : Nat) (x : Int32) (hls : l.stackTraces = false) (hr : Rep g σ) (hv : Inv M σ) (hb : b < σ 2) (hx : inI x (nI 0) (nI 200) = false) (oa : Nat) (fo : Nat → Int64) : zH (aX adK adV) l yL_blockAfter wsL_blockAfter { frames := 7, cells := 1, slots := 6, locals := 125 } D (zTy κ) [.ref (ra), .int (nI b), .int (x), .ref oa] (OUTW κ oa fo ++ (SW κ Sf f ++ (SW κ Sa g ++ (RC ra (Sa 0) (Sf 0) h9 a9 b9 p9 o9)))) (S := Unit) (fun _ => some (.int (nI 2))) (fun _ => True) (fun _ => OUTW κ oa fo ++ (SW κ Sf f ++ (SW κ Sa g ++ (RC ra (Sa 0) (Sf 0) h9 a9 b9 p9 o9)))) 1 6 := by
  refine zH_of (cc := cL_blockAfter) (maxL := 5) (rt := some .int) (hh := [(0, 10, 13, 19), (0, 10, 17, 21)]) [(0, .ref (ra)), (1, .int (nI b)), (2, .int (x)), (3, .ref (oa))] (by decide +kernel) rfl (Nat.le_of_ble_eq_true rfl) rfl ?_
  intro p e s m args below meth c A C hr9 hk htab hX
  have C : zC p s m args c cL_blockAfter 5 wsL_blockAfter RL D (zTy κ) A := C
  refine z_aload_n C dL_blockAfter_0 3 rfl ?_
  refine z_iconst (v := nI 0) C dL_blockAfter_1 (by decide) ?_
  refine z_aload_n C dL_blockAfter_2 0 rfl ?_
  refine z_iload_n C dL_blockAfter_3 1 rfl ?_
  refine z_iload_n C dL_blockAfter_4 2 rfl ?_
  refine zx_catchV C (aX_ok adK adV) hX (mX5_blockAfter_rng l D κ adK adV Sf Sa f g ra h9 a9 b9 p9 o9 σ M b x hls hr hv hb hx) gL_blockAfter_X5_blockAfter rfl rfl rfl hdX5_blockAfter ⟨(Nat.le_of_ble_eq_true rfl), (Nat.le_of_ble_eq_true rfl)⟩ 26 rfl rfl (OUTW κ oa fo) (fun _ => OUTW κ oa fo ++ (SW κ Sf f ++ (SW κ Sa g ++ (RC ra (Sa 0) (Sf 0) h9 a9 b9 p9 o9)))) List.perm_append_comm (fun _ => List.perm_append_comm) rfl (Nat.le_of_ble_eq_true rfl) dL_blockAfter_5 ⟨(Nat.le_of_ble_eq_true rfl), (Nat.le_of_ble_eq_true rfl)⟩ [⟨0, 10, 13, 19⟩] ⟨0, 10, 17, 21⟩ [] htab (fun z hz => by
      simp only [List.mem_cons, List.not_mem_nil, or_false] at hz
      rcases hz with rfl
      · exact Or.inr ⟨by decide, eIB, by decide +kernel, hX.2.2.2.1 (eIA, eIB) (by simp [nNs])⟩) (by decide) (by decide) (name := eIA) (show Cond.classLink RL 21 eIA ∈ wsL_blockAfter from by decide +kernel) (hX.2.2.1 (eIA, eIA) (by simp [nCs])) (fun u q hu => ?_)
  refine z_astore C [(4, .ref (q)), (0, .ref (ra)), (1, .int (nI b)), (2, .int (x)), (3, .ref (oa))] dL_blockAfter_17 (by decide) rfl ?_
  refine z_iconst (v := nI 2) C dL_blockAfter_19 (by decide) ?_
  exact zh_iret C hr9 hk u rfl hu (List.Perm.of_eq rfl) dL_blockAfter_20 (Nat.le_of_ble_eq_true rfl) (Nat.le_of_ble_eq_true rfl)
set_option maxRecDepth 100000 in
set_option maxHeartbeats 4000000 in
theorem mL_ticksUntilWait_ok (l : Launch) (D : va_G) (κ : Nat → ClassId) (Sf Sa : Nat → Nat) (f g : Nat → Nat → Nat) (ra h9 a9 b9 p9 o9 : Nat) (σ : Nat → Nat) (M : Nat) (b : Nat) (hr : Rep g σ) (hv : Inv M σ) (hb : b < σ 2) (hM : M + 2300 < 1073741824) (adK adV : Nat → Nat) (oa : Nat) (fo : Nat → Int64) : zH (aX adK adV) l yL_ticksUntilWait wsL_ticksUntilWait { frames := 5, cells := 0, slots := 0, locals := 114 } D (zTy κ) [.ref ra, .int (nI b), .ref oa] (OUTW κ oa fo ++ (SW κ Sf f ++ (SW κ Sa g ++ RC ra (Sa 0) (Sf 0) h9 a9 b9 p9 o9))) (S := Nat → Nat → Nat) (fun _ => some (.int (nI 0))) (fun _ => True) (fun u => OUTW κ oa (vp_updL fo 0 (((tI (wtT σ b))).toInt64)) ++ (SW κ Sf u ++ (SW κ Sa g ++ RC ra (Sa 0) (Sf 0) h9 a9 b9 p9 o9))) 0 0 := by
  refine zH_of (cc := cL_ticksUntilWait) (maxL := 4) (rt := some .int) (hh := [(0, 9, 12, 19)]) [(0, .ref (ra)), (1, .int (nI b)), (2, .ref (oa))] (by decide +kernel) rfl (Nat.le_of_ble_eq_true rfl) rfl ?_
  intro p e s m args below meth c A C hr9 hk htab hX
  have C : zC p s m args c cL_ticksUntilWait 4 wsL_ticksUntilWait RL D (zTy κ) A := C
  refine z_aload_n C dL_ticksUntilWait_0 2 rfl ?_
  refine z_iconst (v := nI 0) C dL_ticksUntilWait_1 (by decide) ?_
  refine z_aload_n C dL_ticksUntilWait_2 0 rfl ?_
  refine z_iload_n C dL_ticksUntilWait_3 1 rfl ?_
  refine z_callV C (mX5_ticksUntilWait_ok l D κ Sf Sa f g ra h9 a9 b9 p9 o9 σ M b hr hv hb hM) gL_ticksUntilWait_X5_ticksUntilWait rfl rfl rfl hdX5_ticksUntilWait ⟨(Nat.le_of_ble_eq_true rfl), (Nat.le_of_ble_eq_true rfl)⟩ 26 rfl rfl (OUTW κ oa fo) (fun u => OUTW κ oa fo ++ (SW κ Sf u ++ (SW κ Sa g ++ RC ra (Sa 0) (Sf 0) h9 a9 b9 p9 o9))) List.perm_append_comm (fun _ => List.perm_append_comm) rfl (Nat.le_of_ble_eq_true rfl) dL_ticksUntilWait_4 ⟨(Nat.le_of_ble_eq_true rfl), (Nat.le_of_ble_eq_true rfl)⟩ (fun u hu => ?_)
  refine z_i2l C dL_ticksUntilWait_7 rfl ?_
  refine z_last C 0 4 rfl rfl (i := 0) (by decide) (by decide) dL_ticksUntilWait_8 (OUTW κ oa (vp_updL fo 0 (((tI (wtT σ b))).toInt64)) ++ (SW κ Sf u ++ (SW κ Sa g ++ RC ra (Sa 0) (Sf 0) h9 a9 b9 p9 o9))) rfl ?_
  refine z_goto (tgt := 15) C dL_ticksUntilWait_9 (by decide) ?_
  refine z_iconst (v := nI 0) C dL_ticksUntilWait_15 (by decide) ?_
  exact zh_iret C hr9 hk u rfl hu (List.Perm.of_eq rfl) dL_ticksUntilWait_16 (Nat.le_of_ble_eq_true rfl) (Nat.le_of_ble_eq_true rfl)
theorem hdL_ticksUntilWait : yL_ticksUntilWait.cls ≠ "java/lang/invoke/MethodHandle" ∧ yL_ticksUntilWait.cls ≠ "java/lang/invoke/VarHandle" ∧ (parseMethodDescriptor yL_ticksUntilWait.desc).map (fun d => d.parameters.length) = some 3 := by decide +kernel
set_option maxRecDepth 100000 in
set_option maxHeartbeats 4000000 in
theorem mL_ticksUntilWait_no (l : Launch) (D : va_G) (κ : Nat → ClassId) (adK adV : Nat → Nat) (Sf Sa : Nat → Nat) (f g : Nat → Nat → Nat) (ra h9 a9 b9 p9 o9 : Nat) (σ : Nat → Nat) (M : Nat) (x : Int32) (hls : l.stackTraces = false) (hr : Rep g σ) (hv : Inv M σ) (hx : isB (σ 2) x = false) (oa : Nat) (fo : Nat → Int64) : zH (aX adK adV) l yL_ticksUntilWait wsL_ticksUntilWait { frames := 8, cells := 1, slots := 6, locals := 125 } D (zTy κ) [.ref (ra), .int (x), .ref oa] (OUTW κ oa fo ++ (SW κ Sf f ++ (SW κ Sa g ++ (RC ra (Sa 0) (Sf 0) h9 a9 b9 p9 o9)))) (S := Unit) (fun _ => some (.int (nI 1))) (fun _ => True) (fun _ => OUTW κ oa fo ++ (SW κ Sf f ++ (SW κ Sa g ++ (RC ra (Sa 0) (Sf 0) h9 a9 b9 p9 o9)))) 1 6 := by
  refine zH_of (cc := cL_ticksUntilWait) (maxL := 4) (rt := some .int) (hh := [(0, 9, 12, 19)]) [(0, .ref (ra)), (1, .int (x)), (2, .ref (oa))] (by decide +kernel) rfl (Nat.le_of_ble_eq_true rfl) rfl ?_
  intro p e s m args below meth c A C hr9 hk htab hX
  have C : zC p s m args c cL_ticksUntilWait 4 wsL_ticksUntilWait RL D (zTy κ) A := C
  refine z_aload_n C dL_ticksUntilWait_0 2 rfl ?_
  refine z_iconst (v := nI 0) C dL_ticksUntilWait_1 (by decide) ?_
  refine z_aload_n C dL_ticksUntilWait_2 0 rfl ?_
  refine z_iload_n C dL_ticksUntilWait_3 1 rfl ?_
  refine zx_catchV C (aX_ok adK adV) hX (mX5_ticksUntilWait_no l D κ adK adV Sf Sa f g ra h9 a9 b9 p9 o9 σ M x hls hr hv hx) gL_ticksUntilWait_X5_ticksUntilWait rfl rfl rfl hdX5_ticksUntilWait ⟨(Nat.le_of_ble_eq_true rfl), (Nat.le_of_ble_eq_true rfl)⟩ 26 rfl rfl (OUTW κ oa fo) (fun _ => OUTW κ oa fo ++ (SW κ Sf f ++ (SW κ Sa g ++ (RC ra (Sa 0) (Sf 0) h9 a9 b9 p9 o9)))) List.perm_append_comm (fun _ => List.perm_append_comm) rfl (Nat.le_of_ble_eq_true rfl) dL_ticksUntilWait_4 ⟨(Nat.le_of_ble_eq_true rfl), (Nat.le_of_ble_eq_true rfl)⟩ [] ⟨0, 9, 12, 19⟩ [] htab (fun z hz => absurd hz List.not_mem_nil) (by decide) (by decide) (name := eIB) (show Cond.classLink RL 19 eIB ∈ wsL_ticksUntilWait from by decide +kernel) (hX.2.2.1 (eIB, eIB) (by simp [nCs])) (fun u q hu => ?_)
  refine z_astore_n C [(3, .ref (q)), (0, .ref (ra)), (1, .int (x)), (2, .ref (oa))] dL_ticksUntilWait_12 (by decide) rfl ?_
  refine z_iconst (v := nI 1) C dL_ticksUntilWait_13 (by decide) ?_
  exact zh_iret C hr9 hk u rfl hu (List.Perm.of_eq rfl) dL_ticksUntilWait_14 (Nat.le_of_ble_eq_true rfl) (Nat.le_of_ble_eq_true rfl)
set_option maxRecDepth 100000 in
set_option maxHeartbeats 4000000 in
theorem mL_advance_ok (l : Launch) (D : va_G) (κ : Nat → ClassId) (Sa Ha : Nat → Nat) (Hs : Nat → Nat → Nat) (hf : Nat → Option Nat) (ra f9 a9 b9 p9 o9 : Nat) (g : Nat → Nat → Nat) (nx ct : Nat) (gh : Nat → Nat → Nat → Nat) (σ : Nat → Nat) (M : Nat) (n : Nat) (hr : Rep g σ) (hv : Inv M σ) (hhf : ∀ j, j < 10 → hf j = some (Hs j 0)) (hnx : nx < 10) (hct : ct ≤ 10) (h1n : 1 ≤ n) (h2n : n ≤ 99) (hl : σ 0 + n ≤ 9999) (hM : M + 11 * n + 11 < 1073741824) (adK adV : Nat → Nat) (oa : Nat) (fo : Nat → Int64) : zH (aX adK adV) l yL_advance wsL_advance { frames := 5, cells := 0, slots := 0, locals := 113 } D (zTy κ) [.ref ra, .int (nI n), .ref oa] (OUTW κ oa fo ++ (kW κ Sa Ha Hs hf ra f9 a9 b9 p9 o9 g nx ct gh)) (S := (Nat → Nat → Nat) × (Nat → Nat → Nat)) (fun _ => some (.int (nI 0))) (fun u => Rep u.1 σ ∧ Rep u.2 (psS n σ)) (fun u => OUTW κ oa (vp_updL fo 0 (((nI (psE n σ))).toInt64)) ++ (kW κ Sa Ha Hs hf ra f9 a9 b9 p9 o9 u.2 (fwN nx) (mnN ct) (upS gh nx u.1))) 0 0 := by
  refine zH_of (cc := cL_advance) (maxL := 4) (rt := some .int) (hh := [(0, 9, 12, 21), (0, 9, 15, 13)]) [(0, .ref (ra)), (1, .int (nI n)), (2, .ref (oa))] (by decide +kernel) rfl (Nat.le_of_ble_eq_true rfl) rfl ?_
  intro p e s m args below meth c A C hr9 hk htab hX
  have C : zC p s m args c cL_advance 4 wsL_advance RL D (zTy κ) A := C
  refine z_aload_n C dL_advance_0 2 rfl ?_
  refine z_iconst (v := nI 0) C dL_advance_1 (by decide) ?_
  refine z_aload_n C dL_advance_2 0 rfl ?_
  refine z_iload_n C dL_advance_3 1 rfl ?_
  refine z_callV C (mX5_advance_ok l D κ Sa Ha Hs hf ra f9 a9 b9 p9 o9 g nx ct gh σ M n hr hv hhf hnx hct h1n h2n hl hM) gL_advance_X5_advance rfl rfl rfl hdX5_advance ⟨(Nat.le_of_ble_eq_true rfl), (Nat.le_of_ble_eq_true rfl)⟩ 13 rfl rfl (OUTW κ oa fo) (fun u => OUTW κ oa fo ++ (kW κ Sa Ha Hs hf ra f9 a9 b9 p9 o9 u.2 (fwN nx) (mnN ct) (upS gh nx u.1))) List.perm_append_comm (fun _ => List.perm_append_comm) rfl (Nat.le_of_ble_eq_true rfl) dL_advance_4 ⟨(Nat.le_of_ble_eq_true rfl), (Nat.le_of_ble_eq_true rfl)⟩ (fun u hu => ?_)
  refine z_i2l C dL_advance_7 rfl ?_
  refine z_last C 0 4 rfl rfl (i := 0) (by decide) (by decide) dL_advance_8 (OUTW κ oa (vp_updL fo 0 (((nI (psE n σ))).toInt64)) ++ (kW κ Sa Ha Hs hf ra f9 a9 b9 p9 o9 u.2 (fwN nx) (mnN ct) (upS gh nx u.1))) rfl ?_
  refine z_goto (tgt := 18) C dL_advance_9 (by decide) ?_
  refine z_iconst (v := nI 0) C dL_advance_18 (by decide) ?_
  exact zh_iret C hr9 hk u rfl hu (List.Perm.of_eq rfl) dL_advance_19 (Nat.le_of_ble_eq_true rfl) (Nat.le_of_ble_eq_true rfl)
theorem hdL_advance : yL_advance.cls ≠ "java/lang/invoke/MethodHandle" ∧ yL_advance.cls ≠ "java/lang/invoke/VarHandle" ∧ (parseMethodDescriptor yL_advance.desc).map (fun d => d.parameters.length) = some 3 := by decide +kernel
set_option maxRecDepth 100000 in
set_option maxHeartbeats 4000000 in
theorem mL_advance_no (l : Launch) (D : va_G) (κ : Nat → ClassId) (adK adV : Nat → Nat) (Sa : Nat → Nat) (g : Nat → Nat → Nat) (ra f9 h9 a9 b9 p9 o9 : Nat) (σ : Nat → Nat) (M : Nat) (x : Int32) (hls : l.stackTraces = false) (hr : Rep g σ) (hv : Inv M σ) (hx : inI x (nI 1) (nI 99) = false) (oa : Nat) (fo : Nat → Int64) : zH (aX adK adV) l yL_advance wsL_advance { frames := 7, cells := 1, slots := 6, locals := 124 } D (zTy κ) [.ref (ra), .int (x), .ref oa] (OUTW κ oa fo ++ (SW κ Sa g ++ (RC ra (Sa 0) f9 h9 a9 b9 p9 o9))) (S := Unit) (fun _ => some (.int (nI 1))) (fun _ => True) (fun _ => OUTW κ oa fo ++ (SW κ Sa g ++ (RC ra (Sa 0) f9 h9 a9 b9 p9 o9))) 1 6 := by
  refine zH_of (cc := cL_advance) (maxL := 4) (rt := some .int) (hh := [(0, 9, 12, 21), (0, 9, 15, 13)]) [(0, .ref (ra)), (1, .int (x)), (2, .ref (oa))] (by decide +kernel) rfl (Nat.le_of_ble_eq_true rfl) rfl ?_
  intro p e s m args below meth c A C hr9 hk htab hX
  have C : zC p s m args c cL_advance 4 wsL_advance RL D (zTy κ) A := C
  refine z_aload_n C dL_advance_0 2 rfl ?_
  refine z_iconst (v := nI 0) C dL_advance_1 (by decide) ?_
  refine z_aload_n C dL_advance_2 0 rfl ?_
  refine z_iload_n C dL_advance_3 1 rfl ?_
  refine zx_catchV C (aX_ok adK adV) hX (mX5_advance_no l D κ adK adV Sa g ra f9 h9 a9 b9 p9 o9 σ M x hls hr hv hx) gL_advance_X5_advance rfl rfl rfl hdX5_advance ⟨(Nat.le_of_ble_eq_true rfl), (Nat.le_of_ble_eq_true rfl)⟩ 13 rfl rfl (OUTW κ oa fo) (fun _ => OUTW κ oa fo ++ (SW κ Sa g ++ (RC ra (Sa 0) f9 h9 a9 b9 p9 o9))) List.perm_append_comm (fun _ => List.perm_append_comm) rfl (Nat.le_of_ble_eq_true rfl) dL_advance_4 ⟨(Nat.le_of_ble_eq_true rfl), (Nat.le_of_ble_eq_true rfl)⟩ [] ⟨0, 9, 12, 21⟩ [⟨0, 9, 15, 13⟩] htab (fun z hz => absurd hz List.not_mem_nil) (by decide) (by decide) (name := eIA) (show Cond.classLink RL 21 eIA ∈ wsL_advance from by decide +kernel) (hX.2.2.1 (eIA, eIA) (by simp [nCs])) (fun u q hu => ?_)
  refine z_astore_n C [(3, .ref (q)), (0, .ref (ra)), (1, .int (x)), (2, .ref (oa))] dL_advance_12 (by decide) rfl ?_
  refine z_iconst (v := nI 1) C dL_advance_13 (by decide) ?_
  exact zh_iret C hr9 hk u rfl hu (List.Perm.of_eq rfl) dL_advance_14 (Nat.le_of_ble_eq_true rfl) (Nat.le_of_ble_eq_true rfl)
set_option maxRecDepth 100000 in
set_option maxHeartbeats 4000000 in
theorem mL_advance_lim (l : Launch) (D : va_G) (κ : Nat → ClassId) (adK adV : Nat → Nat) (Sa : Nat → Nat) (g : Nat → Nat → Nat) (ra f9 h9 a9 b9 p9 o9 : Nat) (σ : Nat → Nat) (M : Nat) (n : Nat) (hls : l.stackTraces = false) (hr : Rep g σ) (hv : Inv M σ) (h1n : 1 ≤ n) (h2n : n ≤ 99) (h0 : σ 0 ≤ 9999) (hl : 9999 < σ 0 + n) (oa : Nat) (fo : Nat → Int64) : zH (aX adK adV) l yL_advance wsL_advance { frames := 7, cells := 1, slots := 6, locals := 124 } D (zTy κ) [.ref (ra), .int (nI n), .ref oa] (OUTW κ oa fo ++ (SW κ Sa g ++ (RC ra (Sa 0) f9 h9 a9 b9 p9 o9))) (S := Unit) (fun _ => some (.int (nI 2))) (fun _ => True) (fun _ => OUTW κ oa fo ++ (SW κ Sa g ++ (RC ra (Sa 0) f9 h9 a9 b9 p9 o9))) 1 6 := by
  refine zH_of (cc := cL_advance) (maxL := 4) (rt := some .int) (hh := [(0, 9, 12, 21), (0, 9, 15, 13)]) [(0, .ref (ra)), (1, .int (nI n)), (2, .ref (oa))] (by decide +kernel) rfl (Nat.le_of_ble_eq_true rfl) rfl ?_
  intro p e s m args below meth c A C hr9 hk htab hX
  have C : zC p s m args c cL_advance 4 wsL_advance RL D (zTy κ) A := C
  refine z_aload_n C dL_advance_0 2 rfl ?_
  refine z_iconst (v := nI 0) C dL_advance_1 (by decide) ?_
  refine z_aload_n C dL_advance_2 0 rfl ?_
  refine z_iload_n C dL_advance_3 1 rfl ?_
  refine zx_catchV C (aX_ok adK adV) hX (mX5_advance_lim l D κ adK adV Sa g ra f9 h9 a9 b9 p9 o9 σ M n hls hr hv h1n h2n h0 hl) gL_advance_X5_advance rfl rfl rfl hdX5_advance ⟨(Nat.le_of_ble_eq_true rfl), (Nat.le_of_ble_eq_true rfl)⟩ 13 rfl rfl (OUTW κ oa fo) (fun _ => OUTW κ oa fo ++ (SW κ Sa g ++ (RC ra (Sa 0) f9 h9 a9 b9 p9 o9))) List.perm_append_comm (fun _ => List.perm_append_comm) rfl (Nat.le_of_ble_eq_true rfl) dL_advance_4 ⟨(Nat.le_of_ble_eq_true rfl), (Nat.le_of_ble_eq_true rfl)⟩ [⟨0, 9, 12, 21⟩] ⟨0, 9, 15, 13⟩ [] htab (fun z hz => by
      simp only [List.mem_cons, List.not_mem_nil, or_false] at hz
      rcases hz with rfl
      · exact Or.inr ⟨by decide, eIA, by decide +kernel, hX.2.2.2.1 (eIS, eIA) (by simp [nNs])⟩) (by decide) (by decide) (name := eIS) (show Cond.classLink RL 13 eIS ∈ wsL_advance from by decide +kernel) (hX.2.2.1 (eIS, eIS) (by simp [nCs])) (fun u q hu => ?_)
  refine z_astore_n C [(3, .ref (q)), (0, .ref (ra)), (1, .int (nI n)), (2, .ref (oa))] dL_advance_15 (by decide) rfl ?_
  refine z_iconst (v := nI 2) C dL_advance_16 (by decide) ?_
  exact zh_iret C hr9 hk u rfl hu (List.Perm.of_eq rfl) dL_advance_17 (Nat.le_of_ble_eq_true rfl) (Nat.le_of_ble_eq_true rfl)
set_option maxRecDepth 100000 in
set_option maxHeartbeats 4000000 in
theorem mL_pull_ok (l : Launch) (D : va_G) (κ : Nat → ClassId) (Sa Ha : Nat → Nat) (Hs : Nat → Nat → Nat) (hf : Nat → Option Nat) (ra f9 a9 b9 p9 o9 : Nat) (g : Nat → Nat → Nat) (nx ct : Nat) (gh : Nat → Nat → Nat → Nat) (σ : Nat → Nat) (M : Nat) (b : Nat) (hr : Rep g σ) (hv : Inv M σ) (hhf : ∀ j, j < 10 → hf j = some (Hs j 0)) (hnx : nx < 10) (hct : ct ≤ 10) (hb : b < σ 1) (h0 : rsn σ b = 0) (adK adV : Nat → Nat) (oa : Nat) (fo : Nat → Int64) : zH (aX adK adV) l yL_pull wsL_pull { frames := 4, cells := 0, slots := 0, locals := 91 } D (zTy κ) [.ref ra, .int (nI b), .ref oa] (OUTW κ oa fo ++ (kW κ Sa Ha Hs hf ra f9 a9 b9 p9 o9 g nx ct gh)) (S := (Nat → Nat → Nat) × (Nat → Nat → Nat)) (fun _ => some (.int (nI 0))) (fun u => Rep u.1 σ ∧ Rep u.2 (upN σ (5 + 6 * b + 4) 1)) (fun u => OUTW κ oa (vp_updL fo 0 (((nI (sumL (fun i => upN σ (5 + 6 * b + 4) 1 (5 + 6 * i + 4)) (upN σ (5 + 6 * b + 4) 1 1)))).toInt64)) ++ (kW κ Sa Ha Hs hf ra f9 a9 b9 p9 o9 u.2 (fwN nx) (mnN ct) (upS gh nx u.1))) 0 0 := by
  refine zH_of (cc := cL_pull) (maxL := 4) (rt := some .int) (hh := [(0, 9, 12, 19), (0, 9, 15, 13)]) [(0, .ref (ra)), (1, .int (nI b)), (2, .ref (oa))] (by decide +kernel) rfl (Nat.le_of_ble_eq_true rfl) rfl ?_
  intro p e s m args below meth c A C hr9 hk htab hX
  have C : zC p s m args c cL_pull 4 wsL_pull RL D (zTy κ) A := C
  refine z_aload_n C dL_pull_0 2 rfl ?_
  refine z_iconst (v := nI 0) C dL_pull_1 (by decide) ?_
  refine z_aload_n C dL_pull_2 0 rfl ?_
  refine z_iload_n C dL_pull_3 1 rfl ?_
  refine z_callV C (mX5_pull_ok l D κ Sa Ha Hs hf ra f9 a9 b9 p9 o9 g nx ct gh σ M b hr hv hhf hnx hct hb h0) gL_pull_X5_pull rfl rfl rfl hdX5_pull ⟨(Nat.le_of_ble_eq_true rfl), (Nat.le_of_ble_eq_true rfl)⟩ 13 rfl rfl (OUTW κ oa fo) (fun u => OUTW κ oa fo ++ (kW κ Sa Ha Hs hf ra f9 a9 b9 p9 o9 u.2 (fwN nx) (mnN ct) (upS gh nx u.1))) List.perm_append_comm (fun _ => List.perm_append_comm) rfl (Nat.le_of_ble_eq_true rfl) dL_pull_4 ⟨(Nat.le_of_ble_eq_true rfl), (Nat.le_of_ble_eq_true rfl)⟩ (fun u hu => ?_)
  refine z_i2l C dL_pull_7 rfl ?_
  refine z_last C 0 4 rfl rfl (i := 0) (by decide) (by decide) dL_pull_8 (OUTW κ oa (vp_updL fo 0 (((nI (sumL (fun i => upN σ (5 + 6 * b + 4) 1 (5 + 6 * i + 4)) (upN σ (5 + 6 * b + 4) 1 1)))).toInt64)) ++ (kW κ Sa Ha Hs hf ra f9 a9 b9 p9 o9 u.2 (fwN nx) (mnN ct) (upS gh nx u.1))) rfl ?_
  refine z_goto (tgt := 18) C dL_pull_9 (by decide) ?_
  refine z_iconst (v := nI 0) C dL_pull_18 (by decide) ?_
  exact zh_iret C hr9 hk u rfl hu (List.Perm.of_eq rfl) dL_pull_19 (Nat.le_of_ble_eq_true rfl) (Nat.le_of_ble_eq_true rfl)
theorem hdL_pull : yL_pull.cls ≠ "java/lang/invoke/MethodHandle" ∧ yL_pull.cls ≠ "java/lang/invoke/VarHandle" ∧ (parseMethodDescriptor yL_pull.desc).map (fun d => d.parameters.length) = some 3 := by decide +kernel
set_option maxRecDepth 100000 in
set_option maxHeartbeats 4000000 in
theorem mL_pull_no (l : Launch) (D : va_G) (κ : Nat → ClassId) (adK adV : Nat → Nat) (Sa : Nat → Nat) (g : Nat → Nat → Nat) (ra f9 h9 a9 b9 p9 o9 : Nat) (σ : Nat → Nat) (M : Nat) (x : Int32) (hls : l.stackTraces = false) (hr : Rep g σ) (hv : Inv M σ) (hx : isB (σ 1) x = false) (oa : Nat) (fo : Nat → Int64) : zH (aX adK adV) l yL_pull wsL_pull { frames := 8, cells := 1, slots := 6, locals := 124 } D (zTy κ) [.ref (ra), .int (x), .ref oa] (OUTW κ oa fo ++ (SW κ Sa g ++ (RC ra (Sa 0) f9 h9 a9 b9 p9 o9))) (S := Unit) (fun _ => some (.int (nI 1))) (fun _ => True) (fun _ => OUTW κ oa fo ++ (SW κ Sa g ++ (RC ra (Sa 0) f9 h9 a9 b9 p9 o9))) 1 6 := by
  refine zH_of (cc := cL_pull) (maxL := 4) (rt := some .int) (hh := [(0, 9, 12, 19), (0, 9, 15, 13)]) [(0, .ref (ra)), (1, .int (x)), (2, .ref (oa))] (by decide +kernel) rfl (Nat.le_of_ble_eq_true rfl) rfl ?_
  intro p e s m args below meth c A C hr9 hk htab hX
  have C : zC p s m args c cL_pull 4 wsL_pull RL D (zTy κ) A := C
  refine z_aload_n C dL_pull_0 2 rfl ?_
  refine z_iconst (v := nI 0) C dL_pull_1 (by decide) ?_
  refine z_aload_n C dL_pull_2 0 rfl ?_
  refine z_iload_n C dL_pull_3 1 rfl ?_
  refine zx_catchV C (aX_ok adK adV) hX (mX5_pull_no l D κ adK adV Sa g ra f9 h9 a9 b9 p9 o9 σ M x hls hr hv hx) gL_pull_X5_pull rfl rfl rfl hdX5_pull ⟨(Nat.le_of_ble_eq_true rfl), (Nat.le_of_ble_eq_true rfl)⟩ 13 rfl rfl (OUTW κ oa fo) (fun _ => OUTW κ oa fo ++ (SW κ Sa g ++ (RC ra (Sa 0) f9 h9 a9 b9 p9 o9))) List.perm_append_comm (fun _ => List.perm_append_comm) rfl (Nat.le_of_ble_eq_true rfl) dL_pull_4 ⟨(Nat.le_of_ble_eq_true rfl), (Nat.le_of_ble_eq_true rfl)⟩ [] ⟨0, 9, 12, 19⟩ [⟨0, 9, 15, 13⟩] htab (fun z hz => absurd hz List.not_mem_nil) (by decide) (by decide) (name := eIB) (show Cond.classLink RL 19 eIB ∈ wsL_pull from by decide +kernel) (hX.2.2.1 (eIB, eIB) (by simp [nCs])) (fun u q hu => ?_)
  refine z_astore_n C [(3, .ref (q)), (0, .ref (ra)), (1, .int (x)), (2, .ref (oa))] dL_pull_12 (by decide) rfl ?_
  refine z_iconst (v := nI 1) C dL_pull_13 (by decide) ?_
  exact zh_iret C hr9 hk u rfl hu (List.Perm.of_eq rfl) dL_pull_14 (Nat.le_of_ble_eq_true rfl) (Nat.le_of_ble_eq_true rfl)
set_option maxRecDepth 100000 in
set_option maxHeartbeats 4000000 in
theorem mL_pull_bad (l : Launch) (D : va_G) (κ : Nat → ClassId) (adK adV : Nat → Nat) (Sa : Nat → Nat) (g : Nat → Nat → Nat) (ra f9 h9 a9 b9 p9 o9 : Nat) (σ : Nat → Nat) (M : Nat) (b : Nat) (hls : l.stackTraces = false) (hr : Rep g σ) (hv : Inv M σ) (hb : b < σ 1) (h0 : rsn σ b ≠ 0) (oa : Nat) (fo : Nat → Int64) : zH (aX adK adV) l yL_pull wsL_pull { frames := 7, cells := 1, slots := 6, locals := 124 } D (zTy κ) [.ref (ra), .int (nI b), .ref oa] (OUTW κ oa fo ++ (SW κ Sa g ++ (RC ra (Sa 0) f9 h9 a9 b9 p9 o9))) (S := Unit) (fun _ => some (.int (nI 2))) (fun _ => True) (fun _ => OUTW κ oa fo ++ (SW κ Sa g ++ (RC ra (Sa 0) f9 h9 a9 b9 p9 o9))) 1 6 := by
  refine zH_of (cc := cL_pull) (maxL := 4) (rt := some .int) (hh := [(0, 9, 12, 19), (0, 9, 15, 13)]) [(0, .ref (ra)), (1, .int (nI b)), (2, .ref (oa))] (by decide +kernel) rfl (Nat.le_of_ble_eq_true rfl) rfl ?_
  intro p e s m args below meth c A C hr9 hk htab hX
  have C : zC p s m args c cL_pull 4 wsL_pull RL D (zTy κ) A := C
  refine z_aload_n C dL_pull_0 2 rfl ?_
  refine z_iconst (v := nI 0) C dL_pull_1 (by decide) ?_
  refine z_aload_n C dL_pull_2 0 rfl ?_
  refine z_iload_n C dL_pull_3 1 rfl ?_
  refine zx_catchV C (aX_ok adK adV) hX (mX5_pull_bad l D κ adK adV Sa g ra f9 h9 a9 b9 p9 o9 σ M b hls hr hv hb h0) gL_pull_X5_pull rfl rfl rfl hdX5_pull ⟨(Nat.le_of_ble_eq_true rfl), (Nat.le_of_ble_eq_true rfl)⟩ 13 rfl rfl (OUTW κ oa fo) (fun _ => OUTW κ oa fo ++ (SW κ Sa g ++ (RC ra (Sa 0) f9 h9 a9 b9 p9 o9))) List.perm_append_comm (fun _ => List.perm_append_comm) rfl (Nat.le_of_ble_eq_true rfl) dL_pull_4 ⟨(Nat.le_of_ble_eq_true rfl), (Nat.le_of_ble_eq_true rfl)⟩ [⟨0, 9, 12, 19⟩] ⟨0, 9, 15, 13⟩ [] htab (fun z hz => by
      simp only [List.mem_cons, List.not_mem_nil, or_false] at hz
      rcases hz with rfl
      · exact Or.inr ⟨by decide, eIB, by decide +kernel, hX.2.2.2.1 (eIS, eIB) (by simp [nNs])⟩) (by decide) (by decide) (name := eIS) (show Cond.classLink RL 13 eIS ∈ wsL_pull from by decide +kernel) (hX.2.2.1 (eIS, eIS) (by simp [nCs])) (fun u q hu => ?_)
  refine z_astore_n C [(3, .ref (q)), (0, .ref (ra)), (1, .int (nI b)), (2, .ref (oa))] dL_pull_15 (by decide) rfl ?_
  refine z_iconst (v := nI 2) C dL_pull_16 (by decide) ?_
  exact zh_iret C hr9 hk u rfl hu (List.Perm.of_eq rfl) dL_pull_17 (Nat.le_of_ble_eq_true rfl) (Nat.le_of_ble_eq_true rfl)
end LH
