section LH
set_option maxRecDepth 100000 in
set_option maxHeartbeats 4000000 in
theorem mL_outputByte_ok (l : Launch) (D : va_G) (κ : Nat → ClassId) (Oa : Nat → Nat) (ra c9 f9 h9 a9 b9 p9 n : Nat) (ot : Nat → Nat) (k : Nat) (hk0 : k < n) (hn64 : n ≤ 64) (adK adV : Nat → Nat) (oa : Nat) (fo : Nat → Int64) : zH (aX adK adV) l yL_outputByte wsL_outputByte { frames := 1, cells := 0, slots := 0, locals := 21 } D (zTy κ) [.ref ra, .int (nI k), .ref oa] (OUTW κ oa fo ++ (RC ra c9 f9 h9 a9 b9 p9 (Oa 0) ++ (OW κ Oa n ot))) (S := Unit) (fun _ => some (.int (nI 0))) (fun _ => True) (fun _ => OUTW κ oa (vp_updL fo 0 (((nI (ot k))).toInt64)) ++ (RC ra c9 f9 h9 a9 b9 p9 (Oa 0) ++ (OW κ Oa n ot))) 0 0 := by
  refine zH_of (cc := cL_outputByte) (maxL := 4) (rt := some .int) (hh := [(0, 9, 12, 19)]) [(0, .ref (ra)), (1, .int (nI k)), (2, .ref (oa))] (by decide +kernel) rfl (Nat.le_of_ble_eq_true rfl) rfl ?_
  intro p e s m args below meth c A C hr9 hk htab hX
  have C : zC p s m args c cL_outputByte 4 wsL_outputByte RL D (zTy κ) A := C
  refine z_aload_n C dL_outputByte_0 2 rfl ?_
  refine z_iconst (v := nI 0) C dL_outputByte_1 (by decide) ?_
  refine z_aload_n C dL_outputByte_2 0 rfl ?_
  refine z_iload_n C dL_outputByte_3 1 rfl ?_
  refine z_callV C (mX5_outputByte_ok l D κ Oa ra c9 f9 h9 a9 b9 p9 n ot k hk0 hn64) gL_outputByte_X5_outputByte rfl rfl rfl hdX5_outputByte ⟨(Nat.le_of_ble_eq_true rfl), (Nat.le_of_ble_eq_true rfl)⟩ 0 rfl rfl (OUTW κ oa fo) (fun _ => OUTW κ oa fo ++ (RC ra c9 f9 h9 a9 b9 p9 (Oa 0) ++ (OW κ Oa n ot))) List.perm_append_comm (fun _ => List.perm_append_comm) rfl (Nat.le_of_ble_eq_true rfl) dL_outputByte_4 ⟨(Nat.le_of_ble_eq_true rfl), (Nat.le_of_ble_eq_true rfl)⟩ (fun u hu => ?_)
  refine z_i2l C dL_outputByte_7 rfl ?_
  refine z_last C 0 4 rfl rfl (i := 0) (by decide) (by decide) dL_outputByte_8 (OUTW κ oa (vp_updL fo 0 (((nI (ot k))).toInt64)) ++ (RC ra c9 f9 h9 a9 b9 p9 (Oa 0) ++ (OW κ Oa n ot))) rfl ?_
  refine z_goto (tgt := 15) C dL_outputByte_9 (by decide) ?_
  refine z_iconst (v := nI 0) C dL_outputByte_15 (by decide) ?_
  exact zh_iret C hr9 hk u rfl hu (List.Perm.of_eq rfl) dL_outputByte_16 (Nat.le_of_ble_eq_true rfl) (Nat.le_of_ble_eq_true rfl)
theorem hdL_outputByte : yL_outputByte.cls ≠ "java/lang/invoke/MethodHandle" ∧ yL_outputByte.cls ≠ "java/lang/invoke/VarHandle" ∧ (parseMethodDescriptor yL_outputByte.desc).map (fun d => d.parameters.length) = some 3 := by decide +kernel
set_option maxRecDepth 100000 in
set_option maxHeartbeats 4000000 in
theorem mL_outputByte_no (l : Launch) (D : va_G) (κ : Nat → ClassId) (adK adV : Nat → Nat) (Oa : Nat → Nat) (ra c9 f9 h9 a9 b9 p9 n : Nat) (ot : Nat → Nat) (x : Int32) (hls : l.stackTraces = false) (hn64 : n ≤ 64) (hx : isB n x = false) (oa : Nat) (fo : Nat → Int64) : zH (aX adK adV) l yL_outputByte wsL_outputByte { frames := 7, cells := 1, slots := 6, locals := 103 } D (zTy κ) [.ref (ra), .int (x), .ref oa] (OUTW κ oa fo ++ (RC ra c9 f9 h9 a9 b9 p9 (Oa 0) ++ (OW κ Oa n ot))) (S := Unit) (fun _ => some (.int (nI 1))) (fun _ => True) (fun _ => OUTW κ oa fo ++ (RC ra c9 f9 h9 a9 b9 p9 (Oa 0) ++ (OW κ Oa n ot))) 1 6 := by
  refine zH_of (cc := cL_outputByte) (maxL := 4) (rt := some .int) (hh := [(0, 9, 12, 19)]) [(0, .ref (ra)), (1, .int (x)), (2, .ref (oa))] (by decide +kernel) rfl (Nat.le_of_ble_eq_true rfl) rfl ?_
  intro p e s m args below meth c A C hr9 hk htab hX
  have C : zC p s m args c cL_outputByte 4 wsL_outputByte RL D (zTy κ) A := C
  refine z_aload_n C dL_outputByte_0 2 rfl ?_
  refine z_iconst (v := nI 0) C dL_outputByte_1 (by decide) ?_
  refine z_aload_n C dL_outputByte_2 0 rfl ?_
  refine z_iload_n C dL_outputByte_3 1 rfl ?_
  refine zx_catchV C (aX_ok adK adV) hX (mX5_outputByte_no l D κ adK adV Oa ra c9 f9 h9 a9 b9 p9 n ot x hls hn64 hx) gL_outputByte_X5_outputByte rfl rfl rfl hdX5_outputByte ⟨(Nat.le_of_ble_eq_true rfl), (Nat.le_of_ble_eq_true rfl)⟩ 0 rfl rfl (OUTW κ oa fo) (fun _ => OUTW κ oa fo ++ (RC ra c9 f9 h9 a9 b9 p9 (Oa 0) ++ (OW κ Oa n ot))) List.perm_append_comm (fun _ => List.perm_append_comm) rfl (Nat.le_of_ble_eq_true rfl) dL_outputByte_4 ⟨(Nat.le_of_ble_eq_true rfl), (Nat.le_of_ble_eq_true rfl)⟩ [] ⟨0, 9, 12, 19⟩ [] htab (fun z hz => absurd hz List.not_mem_nil) (by decide) (by decide) (name := eIB) (show Cond.classLink RL 19 eIB ∈ wsL_outputByte from by decide +kernel) (hX.2.2.1 (eIB, eIB) (by simp [nCs])) (fun u q hu => ?_)
  refine z_astore_n C [(3, .ref (q)), (0, .ref (ra)), (1, .int (x)), (2, .ref (oa))] dL_outputByte_12 (by decide) rfl ?_
  refine z_iconst (v := nI 1) C dL_outputByte_13 (by decide) ?_
  exact zh_iret C hr9 hk u rfl hu (List.Perm.of_eq rfl) dL_outputByte_14 (Nat.le_of_ble_eq_true rfl) (Nat.le_of_ble_eq_true rfl)
end LH
