section LH
set_option maxRecDepth 100000 in
set_option maxHeartbeats 4000000 in
theorem mL_append_ok (l : Launch) (D : va_G) (κ : Nat → ClassId) (Pa Pr : Nat → Nat) (ra c9 f9 h9 a9 b9 o9 : Nat) (eo : Int32) (v : Nat → Nat) (tx : Nat → Int32) (x1 x2 x3 x4 x5 : Int32) (h1 : v 1 ≤ 580) (adK adV : Nat → Nat) (oa : Nat) (fo : Nat → Int64) : zH (aX adK adV) l yL_append wsL_append { frames := 3, cells := 0, slots := 0, locals := 67 } D (zTy κ) [.ref ra, .int (x1), .int (x2), .int (x3), .int (x4), .int (x5), .ref oa] (OUTW κ oa fo ++ (RC ra c9 f9 h9 a9 b9 (Pa 0) o9 ++ (PW κ Pa Pr eo v tx))) (S := Unit) (fun _ => some (.int (nI 0))) (fun _ => True) (fun _ => OUTW κ oa (vp_updL fo 0 (((nI (v 1 + 4 + 4 + 4 + 4 + 4))).toInt64)) ++ (RC ra c9 f9 h9 a9 b9 (Pa 0) o9 ++ (PW κ Pa Pr eo (upN v 1 (v 1 + 4 + 4 + 4 + 4 + 4)) (fdF (fdF (fdF (fdF (fdF tx (v 1) x1) (v 1 + 4) x2) (v 1 + 4 + 4) x3) (v 1 + 4 + 4 + 4) x4) (v 1 + 4 + 4 + 4 + 4) x5)))) 0 0 := by
  refine zH_of (cc := cL_append) (maxL := 8) (rt := some .int) (hh := [(0, 16, 19, 13)]) [(0, .ref (ra)), (1, .int (x1)), (2, .int (x2)), (3, .int (x3)), (4, .int (x4)), (5, .int (x5)), (6, .ref (oa))] (by decide +kernel) rfl (Nat.le_of_ble_eq_true rfl) rfl ?_
  intro p e s m args below meth c A C hr9 hk htab hX
  have C : zC p s m args c cL_append 8 wsL_append RL D (zTy κ) A := C
  refine z_aload C dL_append_0 6 rfl ?_
  refine z_iconst (v := nI 0) C dL_append_2 (by decide) ?_
  refine z_aload_n C dL_append_3 0 rfl ?_
  refine z_iload_n C dL_append_4 1 rfl ?_
  refine z_iload_n C dL_append_5 2 rfl ?_
  refine z_iload_n C dL_append_6 3 rfl ?_
  refine z_iload C dL_append_7 4 rfl ?_
  refine z_iload C dL_append_9 5 rfl ?_
  refine z_callV C (mX5_append_ok l D κ Pa Pr ra c9 f9 h9 a9 b9 o9 eo v tx x1 x2 x3 x4 x5 h1) gL_append_X5_append rfl rfl rfl hdX5_append ⟨(Nat.le_of_ble_eq_true rfl), (Nat.le_of_ble_eq_true rfl)⟩ 0 rfl rfl (OUTW κ oa fo) (fun _ => OUTW κ oa fo ++ (RC ra c9 f9 h9 a9 b9 (Pa 0) o9 ++ (PW κ Pa Pr eo (upN v 1 (v 1 + 4 + 4 + 4 + 4 + 4)) (fdF (fdF (fdF (fdF (fdF tx (v 1) x1) (v 1 + 4) x2) (v 1 + 4 + 4) x3) (v 1 + 4 + 4 + 4) x4) (v 1 + 4 + 4 + 4 + 4) x5)))) List.perm_append_comm (fun _ => List.perm_append_comm) rfl (Nat.le_of_ble_eq_true rfl) dL_append_11 ⟨(Nat.le_of_ble_eq_true rfl), (Nat.le_of_ble_eq_true rfl)⟩ (fun u hu => ?_)
  refine z_i2l C dL_append_14 rfl ?_
  refine z_last C 0 4 rfl rfl (i := 0) (by decide) (by decide) dL_append_15 (OUTW κ oa (vp_updL fo 0 (((nI (v 1 + 4 + 4 + 4 + 4 + 4))).toInt64)) ++ (RC ra c9 f9 h9 a9 b9 (Pa 0) o9 ++ (PW κ Pa Pr eo (upN v 1 (v 1 + 4 + 4 + 4 + 4 + 4)) (fdF (fdF (fdF (fdF (fdF tx (v 1) x1) (v 1 + 4) x2) (v 1 + 4 + 4) x3) (v 1 + 4 + 4 + 4) x4) (v 1 + 4 + 4 + 4 + 4) x5)))) rfl ?_
  refine z_goto (tgt := 23) C dL_append_16 (by decide) ?_
  refine z_iconst (v := nI 0) C dL_append_23 (by decide) ?_
  exact zh_iret C hr9 hk u rfl hu (List.Perm.of_eq rfl) dL_append_24 (Nat.le_of_ble_eq_true rfl) (Nat.le_of_ble_eq_true rfl)
theorem hdL_append : yL_append.cls ≠ "java/lang/invoke/MethodHandle" ∧ yL_append.cls ≠ "java/lang/invoke/VarHandle" ∧ (parseMethodDescriptor yL_append.desc).map (fun d => d.parameters.length) = some 7 := by decide +kernel
set_option maxRecDepth 100000 in
set_option maxHeartbeats 4000000 in
theorem mL_append_no (l : Launch) (D : va_G) (κ : Nat → ClassId) (adK adV : Nat → Nat) (Pa Pr : Nat → Nat) (ra c9 f9 h9 a9 b9 o9 : Nat) (eo : Int32) (v : Nat → Nat) (tx : Nat → Int32) (x1 x2 x3 x4 x5 : Int32) (hls : l.stackTraces = false) (h1 : v 1 ≤ 600) (h2 : 580 < v 1) (oa : Nat) (fo : Nat → Int64) : zH (aX adK adV) l yL_append wsL_append { frames := 7, cells := 1, slots := 6, locals := 128 } D (zTy κ) [.ref (ra), .int (x1), .int (x2), .int (x3), .int (x4), .int (x5), .ref oa] (OUTW κ oa fo ++ (RC ra c9 f9 h9 a9 b9 (Pa 0) o9 ++ (PW κ Pa Pr eo v tx))) (S := Unit) (fun _ => some (.int (nI 1))) (fun _ => True) (fun _ => OUTW κ oa fo ++ (RC ra c9 f9 h9 a9 b9 (Pa 0) o9 ++ (PW κ Pa Pr eo v tx))) 1 6 := by
  refine zH_of (cc := cL_append) (maxL := 8) (rt := some .int) (hh := [(0, 16, 19, 13)]) [(0, .ref (ra)), (1, .int (x1)), (2, .int (x2)), (3, .int (x3)), (4, .int (x4)), (5, .int (x5)), (6, .ref (oa))] (by decide +kernel) rfl (Nat.le_of_ble_eq_true rfl) rfl ?_
  intro p e s m args below meth c A C hr9 hk htab hX
  have C : zC p s m args c cL_append 8 wsL_append RL D (zTy κ) A := C
  refine z_aload C dL_append_0 6 rfl ?_
  refine z_iconst (v := nI 0) C dL_append_2 (by decide) ?_
  refine z_aload_n C dL_append_3 0 rfl ?_
  refine z_iload_n C dL_append_4 1 rfl ?_
  refine z_iload_n C dL_append_5 2 rfl ?_
  refine z_iload_n C dL_append_6 3 rfl ?_
  refine z_iload C dL_append_7 4 rfl ?_
  refine z_iload C dL_append_9 5 rfl ?_
  refine zx_catchV C (aX_ok adK adV) hX (mX5_append_no l D κ adK adV Pa Pr ra c9 f9 h9 a9 b9 o9 eo v tx x1 x2 x3 x4 x5 hls h1 h2) gL_append_X5_append rfl rfl rfl hdX5_append ⟨(Nat.le_of_ble_eq_true rfl), (Nat.le_of_ble_eq_true rfl)⟩ 0 rfl rfl (OUTW κ oa fo) (fun _ => OUTW κ oa fo ++ (RC ra c9 f9 h9 a9 b9 (Pa 0) o9 ++ (PW κ Pa Pr eo v tx))) List.perm_append_comm (fun _ => List.perm_append_comm) rfl (Nat.le_of_ble_eq_true rfl) dL_append_11 ⟨(Nat.le_of_ble_eq_true rfl), (Nat.le_of_ble_eq_true rfl)⟩ [] ⟨0, 16, 19, 13⟩ [] htab (fun z hz => absurd hz List.not_mem_nil) (by decide) (by decide) (name := eIS) (show Cond.classLink RL 13 eIS ∈ wsL_append from by decide +kernel) (hX.2.2.1 (eIS, eIS) (by simp [nCs])) (fun u q hu => ?_)
  refine z_astore C [(7, .ref (q)), (0, .ref (ra)), (1, .int (x1)), (2, .int (x2)), (3, .int (x3)), (4, .int (x4)), (5, .int (x5)), (6, .ref (oa))] dL_append_19 (by decide) rfl ?_
  refine z_iconst (v := nI 1) C dL_append_21 (by decide) ?_
  exact zh_iret C hr9 hk u rfl hu (List.Perm.of_eq rfl) dL_append_22 (Nat.le_of_ble_eq_true rfl) (Nat.le_of_ble_eq_true rfl)
set_option maxRecDepth 100000 in
set_option maxHeartbeats 4000000 in
theorem mL_load_ok (l : Launch) (D : va_G) (κ : Nat → ClassId) (adK adV : Nat → Nat) (Sa Ha Pa Pr : Nat → Nat) (hf : Nat → Option Nat) (ra f9 la lb o9 s1 s2 nx ct fa fb : Nat) (g gp : Nat → Nat → Nat) (eo : Int32) (v : Nat → Nat) (tx : Nat → Int32) (n : Nat) (τ : Nat → Nat) (hn : n ≤ v 1) (h600 : v 1 ≤ 600) (hpt : pText tx n = .inr τ) (oa : Nat) (fo : Nat → Int64) : zH (aX adK adV) l yL_load wsL_load { frames := 9, cells := 0, slots := 0, locals := 194 } D (zTy κ) [.ref ra, .int (nI n), .ref oa] (OUTW κ oa fo ++ (SW κ Sa g ++ (RC ra (Sa 0) f9 (Ha 0) la lb (Pa 0) o9 ++ (HO κ Ha hf nx ct ++ (SO la s1 fa ++ (SO lb s2 fb ++ (SW κ Pr gp ++ PW κ Pa Pr eo v tx))))))) (S := (Nat → Nat → Nat) × (Nat → Nat → Nat) × Int32 × (Nat → Nat)) (fun _ => some (.int (nI 0))) (fun u => Rep u.1 τ ∧ Inv (20 + 1100 * n) τ ∧ τ 0 ≤ 9999 ∧ u.2.2.1 = -1 ∧ u.2.2.2 1 = 0 ∧ u.2.2.2 2 = 0) (fun u => OUTW κ oa (vp_updL fo 0 (((nI (τ 1))).toInt64)) ++ (SW κ Sa u.1 ++ (RC ra (Sa 0) f9 (Ha 0) la lb (Pa 0) o9 ++ (HO κ Ha hf nx 0 ++ (SO la s1 0 ++ (SO lb s2 0 ++ (SW κ Pr u.2.1 ++ PW κ Pa Pr u.2.2.1 u.2.2.2 tx))))))) 0 0 := by
  refine zH_of (cc := cL_load) (maxL := 4) (rt := some .int) (hh := [(0, 9, 12, 19), (0, 9, 15, 21)]) [(0, .ref (ra)), (1, .int (nI n)), (2, .ref (oa))] (by decide +kernel) rfl (Nat.le_of_ble_eq_true rfl) rfl ?_
  intro p e s m args below meth c A C hr9 hk htab hX
  have C : zC p s m args c cL_load 4 wsL_load RL D (zTy κ) A := C
  refine z_aload_n C dL_load_0 2 rfl ?_
  refine z_iconst (v := nI 0) C dL_load_1 (by decide) ?_
  refine z_aload_n C dL_load_2 0 rfl ?_
  refine z_iload_n C dL_load_3 1 rfl ?_
  refine z_callVc C (cX_ok adK adV) hX.1 (mX5_load_ok l D κ adK adV Sa Ha Pa Pr hf ra f9 la lb o9 s1 s2 nx ct fa fb g gp eo v tx n τ hn h600 hpt) gL_load_X5_load rfl rfl rfl hdX5_load ⟨(Nat.le_of_ble_eq_true rfl), (Nat.le_of_ble_eq_true rfl)⟩ 13 rfl rfl (OUTW κ oa fo) (fun u => OUTW κ oa fo ++ (SW κ Sa u.1 ++ (RC ra (Sa 0) f9 (Ha 0) la lb (Pa 0) o9 ++ (HO κ Ha hf nx 0 ++ (SO la s1 0 ++ (SO lb s2 0 ++ (SW κ Pr u.2.1 ++ PW κ Pa Pr u.2.2.1 u.2.2.2 tx))))))) List.perm_append_comm (fun _ => List.perm_append_comm) rfl (Nat.le_of_ble_eq_true rfl) dL_load_4 ⟨(Nat.le_of_ble_eq_true rfl), (Nat.le_of_ble_eq_true rfl)⟩ (fun u hu => ?_)
  refine z_i2l C dL_load_7 rfl ?_
  refine z_last C 0 4 rfl rfl (i := 0) (by decide) (by decide) dL_load_8 (OUTW κ oa (vp_updL fo 0 (((nI (τ 1))).toInt64)) ++ (SW κ Sa u.1 ++ (RC ra (Sa 0) f9 (Ha 0) la lb (Pa 0) o9 ++ (HO κ Ha hf nx 0 ++ (SO la s1 0 ++ (SO lb s2 0 ++ (SW κ Pr u.2.1 ++ PW κ Pa Pr u.2.2.1 u.2.2.2 tx))))))) rfl ?_
  refine z_goto (tgt := 18) C dL_load_9 (by decide) ?_
  refine z_iconst (v := nI 0) C dL_load_18 (by decide) ?_
  exact zh_iret C hr9 hk u rfl hu (List.Perm.of_eq rfl) dL_load_19 (Nat.le_of_ble_eq_true rfl) (Nat.le_of_ble_eq_true rfl)
theorem hdL_load : yL_load.cls ≠ "java/lang/invoke/MethodHandle" ∧ yL_load.cls ≠ "java/lang/invoke/VarHandle" ∧ (parseMethodDescriptor yL_load.desc).map (fun d => d.parameters.length) = some 3 := by decide +kernel
set_option maxRecDepth 100000 in
set_option maxHeartbeats 4000000 in
theorem mL_load_err (l : Launch) (D : va_G) (κ : Nat → ClassId) (adK adV : Nat → Nat) (Sa Ha Pa Pr : Nat → Nat) (hf : Nat → Option Nat) (ra f9 la lb o9 s1 s2 nx ct fa fb : Nat) (g gp : Nat → Nat → Nat) (eo : Int32) (v : Nat → Nat) (tx : Nat → Int32) (n : Nat) (c0 e0 : Nat) (hls : l.stackTraces = false) (hn : n ≤ v 1) (h600 : v 1 ≤ 600) (hpt : pText tx n = .inl (c0, e0)) (oa : Nat) (fo : Nat → Int64) : zH (aX adK adV) l yL_load wsL_load { frames := 9, cells := 1, slots := 6, locals := 204 } D (zTy κ) [.ref (ra), .int (nI n), .ref oa] (OUTW κ oa fo ++ (SW κ Sa g ++ (RC ra (Sa 0) f9 (Ha 0) la lb (Pa 0) o9 ++ (HO κ Ha hf nx ct ++ (SO la s1 fa ++ (SO lb s2 fb ++ (SW κ Pr gp ++ PW κ Pa Pr eo v tx))))))) (S := (Nat → Nat → Nat) × Int32 × (Nat → Nat)) (fun _ => some (.int (nI 2))) (fun u => u.2.1 = nI e0 ∧ u.2.2 1 = 0 ∧ u.2.2 2 = c0) (fun u => OUTW κ oa fo ++ (SW κ Sa g ++ (RC ra (Sa 0) f9 (Ha 0) la lb (Pa 0) o9 ++ (HO κ Ha hf nx ct ++ (SO la s1 fa ++ (SO lb s2 fb ++ (SW κ Pr u.1 ++ PW κ Pa Pr u.2.1 u.2.2 tx))))))) 1 6 := by
  refine zH_of (cc := cL_load) (maxL := 4) (rt := some .int) (hh := [(0, 9, 12, 19), (0, 9, 15, 21)]) [(0, .ref (ra)), (1, .int (nI n)), (2, .ref (oa))] (by decide +kernel) rfl (Nat.le_of_ble_eq_true rfl) rfl ?_
  intro p e s m args below meth c A C hr9 hk htab hX
  have C : zC p s m args c cL_load 4 wsL_load RL D (zTy κ) A := C
  refine z_aload_n C dL_load_0 2 rfl ?_
  refine z_iconst (v := nI 0) C dL_load_1 (by decide) ?_
  refine z_aload_n C dL_load_2 0 rfl ?_
  refine z_iload_n C dL_load_3 1 rfl ?_
  refine zx_catchV C (aX_ok adK adV) hX (mX5_load_err l D κ adK adV Sa Ha Pa Pr hf ra f9 la lb o9 s1 s2 nx ct fa fb g gp eo v tx n c0 e0 hls hn h600 hpt) gL_load_X5_load rfl rfl rfl hdX5_load ⟨(Nat.le_of_ble_eq_true rfl), (Nat.le_of_ble_eq_true rfl)⟩ 13 rfl rfl (OUTW κ oa fo) (fun u => OUTW κ oa fo ++ (SW κ Sa g ++ (RC ra (Sa 0) f9 (Ha 0) la lb (Pa 0) o9 ++ (HO κ Ha hf nx ct ++ (SO la s1 fa ++ (SO lb s2 fb ++ (SW κ Pr u.1 ++ PW κ Pa Pr u.2.1 u.2.2 tx))))))) List.perm_append_comm (fun _ => List.perm_append_comm) rfl (Nat.le_of_ble_eq_true rfl) dL_load_4 ⟨(Nat.le_of_ble_eq_true rfl), (Nat.le_of_ble_eq_true rfl)⟩ [⟨0, 9, 12, 19⟩] ⟨0, 9, 15, 21⟩ [] htab (fun z hz => by
      simp only [List.mem_cons, List.not_mem_nil, or_false] at hz
      rcases hz with rfl
      · exact Or.inr ⟨by decide, eIB, by decide +kernel, hX.2.2.2.1 (eIA, eIB) (by simp [nNs])⟩) (by decide) (by decide) (name := eIA) (show Cond.classLink RL 21 eIA ∈ wsL_load from by decide +kernel) (hX.2.2.1 (eIA, eIA) (by simp [nCs])) (fun u q hu => ?_)
  refine z_astore_n C [(3, .ref (q)), (0, .ref (ra)), (1, .int (nI n)), (2, .ref (oa))] dL_load_15 (by decide) rfl ?_
  refine z_iconst (v := nI 2) C dL_load_16 (by decide) ?_
  exact zh_iret C hr9 hk u rfl hu (List.Perm.of_eq rfl) dL_load_17 (Nat.le_of_ble_eq_true rfl) (Nat.le_of_ble_eq_true rfl)
set_option maxRecDepth 100000 in
set_option maxHeartbeats 4000000 in
theorem mL_load_no (l : Launch) (D : va_G) (κ : Nat → ClassId) (adK adV : Nat → Nat) (Pa Pr : Nat → Nat) (ra c9 f9 h9 a9 b9 o9 : Nat) (eo : Int32) (v : Nat → Nat) (tx : Nat → Int32) (x : Int32) (hls : l.stackTraces = false) (h600 : v 1 ≤ 600) (hx : isB (v 1 + 1) x = false) (oa : Nat) (fo : Nat → Int64) : zH (aX adK adV) l yL_load wsL_load { frames := 7, cells := 1, slots := 6, locals := 103 } D (zTy κ) [.ref (ra), .int (x), .ref oa] (OUTW κ oa fo ++ (RC ra c9 f9 h9 a9 b9 (Pa 0) o9 ++ (PW κ Pa Pr eo v tx))) (S := Unit) (fun _ => some (.int (nI 1))) (fun _ => True) (fun _ => OUTW κ oa fo ++ (RC ra c9 f9 h9 a9 b9 (Pa 0) o9 ++ (PW κ Pa Pr eo v tx))) 1 6 := by
  refine zH_of (cc := cL_load) (maxL := 4) (rt := some .int) (hh := [(0, 9, 12, 19), (0, 9, 15, 21)]) [(0, .ref (ra)), (1, .int (x)), (2, .ref (oa))] (by decide +kernel) rfl (Nat.le_of_ble_eq_true rfl) rfl ?_
  intro p e s m args below meth c A C hr9 hk htab hX
  have C : zC p s m args c cL_load 4 wsL_load RL D (zTy κ) A := C
  refine z_aload_n C dL_load_0 2 rfl ?_
  refine z_iconst (v := nI 0) C dL_load_1 (by decide) ?_
  refine z_aload_n C dL_load_2 0 rfl ?_
  refine z_iload_n C dL_load_3 1 rfl ?_
  refine zx_catchV C (aX_ok adK adV) hX (mX5_load_no l D κ adK adV Pa Pr ra c9 f9 h9 a9 b9 o9 eo v tx x hls h600 hx) gL_load_X5_load rfl rfl rfl hdX5_load ⟨(Nat.le_of_ble_eq_true rfl), (Nat.le_of_ble_eq_true rfl)⟩ 0 rfl rfl (OUTW κ oa fo) (fun _ => OUTW κ oa fo ++ (RC ra c9 f9 h9 a9 b9 (Pa 0) o9 ++ (PW κ Pa Pr eo v tx))) List.perm_append_comm (fun _ => List.perm_append_comm) rfl (Nat.le_of_ble_eq_true rfl) dL_load_4 ⟨(Nat.le_of_ble_eq_true rfl), (Nat.le_of_ble_eq_true rfl)⟩ [] ⟨0, 9, 12, 19⟩ [⟨0, 9, 15, 21⟩] htab (fun z hz => absurd hz List.not_mem_nil) (by decide) (by decide) (name := eIB) (show Cond.classLink RL 19 eIB ∈ wsL_load from by decide +kernel) (hX.2.2.1 (eIB, eIB) (by simp [nCs])) (fun u q hu => ?_)
  refine z_astore_n C [(3, .ref (q)), (0, .ref (ra)), (1, .int (x)), (2, .ref (oa))] dL_load_12 (by decide) rfl ?_
  refine z_iconst (v := nI 1) C dL_load_13 (by decide) ?_
  exact zh_iret C hr9 hk u rfl hu (List.Perm.of_eq rfl) dL_load_14 (Nat.le_of_ble_eq_true rfl) (Nat.le_of_ble_eq_true rfl)
set_option maxRecDepth 100000 in
set_option maxHeartbeats 4000000 in
theorem mL_lengthOf_ok (l : Launch) (D : va_G) (κ : Nat → ClassId) (Sa : Nat → Nat) (g : Nat → Nat → Nat) (ra f9 h9 a9 b9 p9 o9 : Nat) (σ : Nat → Nat) (M : Nat) (b : Nat) (hr : Rep g σ) (hv : Inv M σ) (hb : b < σ 1) (adK adV : Nat → Nat) (oa : Nat) (fo : Nat → Int64) : zH (aX adK adV) l yL_lengthOf wsL_lengthOf { frames := 2, cells := 0, slots := 0, locals := 42 } D (zTy κ) [.ref ra, .int (nI b), .ref oa] (OUTW κ oa fo ++ (SW κ Sa g ++ (RC ra (Sa 0) f9 h9 a9 b9 p9 o9))) (S := Unit) (fun _ => some (.int (nI 0))) (fun _ => True) (fun _ => OUTW κ oa (vp_updL fo 0 (((nI (σ (5 + 6 * b + 0)))).toInt64)) ++ (SW κ Sa g ++ (RC ra (Sa 0) f9 h9 a9 b9 p9 o9))) 0 0 := by
  refine zH_of (cc := cL_lengthOf) (maxL := 4) (rt := some .int) (hh := [(0, 9, 12, 19)]) [(0, .ref (ra)), (1, .int (nI b)), (2, .ref (oa))] (by decide +kernel) rfl (Nat.le_of_ble_eq_true rfl) rfl ?_
  intro p e s m args below meth c A C hr9 hk htab hX
  have C : zC p s m args c cL_lengthOf 4 wsL_lengthOf RL D (zTy κ) A := C
  refine z_aload_n C dL_lengthOf_0 2 rfl ?_
  refine z_iconst (v := nI 0) C dL_lengthOf_1 (by decide) ?_
  refine z_aload_n C dL_lengthOf_2 0 rfl ?_
  refine z_iload_n C dL_lengthOf_3 1 rfl ?_
  refine z_callV C (mX5_lengthOf_ok l D κ Sa g ra f9 h9 a9 b9 p9 o9 σ M b hr hv hb) gL_lengthOf_X5_lengthOf rfl rfl rfl hdX5_lengthOf ⟨(Nat.le_of_ble_eq_true rfl), (Nat.le_of_ble_eq_true rfl)⟩ 13 rfl rfl (OUTW κ oa fo) (fun _ => OUTW κ oa fo ++ (SW κ Sa g ++ (RC ra (Sa 0) f9 h9 a9 b9 p9 o9))) List.perm_append_comm (fun _ => List.perm_append_comm) rfl (Nat.le_of_ble_eq_true rfl) dL_lengthOf_4 ⟨(Nat.le_of_ble_eq_true rfl), (Nat.le_of_ble_eq_true rfl)⟩ (fun u hu => ?_)
  refine z_i2l C dL_lengthOf_7 rfl ?_
  refine z_last C 0 4 rfl rfl (i := 0) (by decide) (by decide) dL_lengthOf_8 (OUTW κ oa (vp_updL fo 0 (((nI (σ (5 + 6 * b + 0)))).toInt64)) ++ (SW κ Sa g ++ (RC ra (Sa 0) f9 h9 a9 b9 p9 o9))) rfl ?_
  refine z_goto (tgt := 15) C dL_lengthOf_9 (by decide) ?_
  refine z_iconst (v := nI 0) C dL_lengthOf_15 (by decide) ?_
  exact zh_iret C hr9 hk u rfl hu (List.Perm.of_eq rfl) dL_lengthOf_16 (Nat.le_of_ble_eq_true rfl) (Nat.le_of_ble_eq_true rfl)
theorem hdL_lengthOf : yL_lengthOf.cls ≠ "java/lang/invoke/MethodHandle" ∧ yL_lengthOf.cls ≠ "java/lang/invoke/VarHandle" ∧ (parseMethodDescriptor yL_lengthOf.desc).map (fun d => d.parameters.length) = some 3 := by decide +kernel
set_option maxRecDepth 100000 in
set_option maxHeartbeats 4000000 in
theorem mL_lengthOf_no (l : Launch) (D : va_G) (κ : Nat → ClassId) (adK adV : Nat → Nat) (Sa : Nat → Nat) (g : Nat → Nat → Nat) (ra f9 h9 a9 b9 p9 o9 : Nat) (σ : Nat → Nat) (M : Nat) (x : Int32) (hls : l.stackTraces = false) (hr : Rep g σ) (hv : Inv M σ) (hx : isB (σ 1) x = false) (oa : Nat) (fo : Nat → Int64) : zH (aX adK adV) l yL_lengthOf wsL_lengthOf { frames := 8, cells := 1, slots := 6, locals := 124 } D (zTy κ) [.ref (ra), .int (x), .ref oa] (OUTW κ oa fo ++ (SW κ Sa g ++ (RC ra (Sa 0) f9 h9 a9 b9 p9 o9))) (S := Unit) (fun _ => some (.int (nI 1))) (fun _ => True) (fun _ => OUTW κ oa fo ++ (SW κ Sa g ++ (RC ra (Sa 0) f9 h9 a9 b9 p9 o9))) 1 6 := by
  refine zH_of (cc := cL_lengthOf) (maxL := 4) (rt := some .int) (hh := [(0, 9, 12, 19)]) [(0, .ref (ra)), (1, .int (x)), (2, .ref (oa))] (by decide +kernel) rfl (Nat.le_of_ble_eq_true rfl) rfl ?_
  intro p e s m args below meth c A C hr9 hk htab hX
  have C : zC p s m args c cL_lengthOf 4 wsL_lengthOf RL D (zTy κ) A := C
  refine z_aload_n C dL_lengthOf_0 2 rfl ?_
  refine z_iconst (v := nI 0) C dL_lengthOf_1 (by decide) ?_
  refine z_aload_n C dL_lengthOf_2 0 rfl ?_
  refine z_iload_n C dL_lengthOf_3 1 rfl ?_
  refine zx_catchV C (aX_ok adK adV) hX (mX5_lengthOf_no l D κ adK adV Sa g ra f9 h9 a9 b9 p9 o9 σ M x hls hr hv hx) gL_lengthOf_X5_lengthOf rfl rfl rfl hdX5_lengthOf ⟨(Nat.le_of_ble_eq_true rfl), (Nat.le_of_ble_eq_true rfl)⟩ 13 rfl rfl (OUTW κ oa fo) (fun _ => OUTW κ oa fo ++ (SW κ Sa g ++ (RC ra (Sa 0) f9 h9 a9 b9 p9 o9))) List.perm_append_comm (fun _ => List.perm_append_comm) rfl (Nat.le_of_ble_eq_true rfl) dL_lengthOf_4 ⟨(Nat.le_of_ble_eq_true rfl), (Nat.le_of_ble_eq_true rfl)⟩ [] ⟨0, 9, 12, 19⟩ [] htab (fun z hz => absurd hz List.not_mem_nil) (by decide) (by decide) (name := eIB) (show Cond.classLink RL 19 eIB ∈ wsL_lengthOf from by decide +kernel) (hX.2.2.1 (eIB, eIB) (by simp [nCs])) (fun u q hu => ?_)
  refine z_astore_n C [(3, .ref (q)), (0, .ref (ra)), (1, .int (x)), (2, .ref (oa))] dL_lengthOf_12 (by decide) rfl ?_
  refine z_iconst (v := nI 1) C dL_lengthOf_13 (by decide) ?_
  exact zh_iret C hr9 hk u rfl hu (List.Perm.of_eq rfl) dL_lengthOf_14 (Nat.le_of_ble_eq_true rfl) (Nat.le_of_ble_eq_true rfl)
set_option maxRecDepth 100000 in
set_option maxHeartbeats 4000000 in
theorem mL_depthOf_ok (l : Launch) (D : va_G) (κ : Nat → ClassId) (Sa : Nat → Nat) (g : Nat → Nat → Nat) (ra f9 h9 a9 b9 p9 o9 : Nat) (σ : Nat → Nat) (M : Nat) (b : Nat) (hr : Rep g σ) (hv : Inv M σ) (hb : b < σ 1) (adK adV : Nat → Nat) (oa : Nat) (fo : Nat → Int64) : zH (aX adK adV) l yL_depthOf wsL_depthOf { frames := 2, cells := 0, slots := 0, locals := 42 } D (zTy κ) [.ref ra, .int (nI b), .ref oa] (OUTW κ oa fo ++ (SW κ Sa g ++ (RC ra (Sa 0) f9 h9 a9 b9 p9 o9))) (S := Unit) (fun _ => some (.int (nI 0))) (fun _ => True) (fun _ => OUTW κ oa (vp_updL fo 0 (((nI (σ (5 + 6 * b + 1)))).toInt64)) ++ (SW κ Sa g ++ (RC ra (Sa 0) f9 h9 a9 b9 p9 o9))) 0 0 := by
  refine zH_of (cc := cL_depthOf) (maxL := 4) (rt := some .int) (hh := [(0, 9, 12, 19)]) [(0, .ref (ra)), (1, .int (nI b)), (2, .ref (oa))] (by decide +kernel) rfl (Nat.le_of_ble_eq_true rfl) rfl ?_
  intro p e s m args below meth c A C hr9 hk htab hX
  have C : zC p s m args c cL_depthOf 4 wsL_depthOf RL D (zTy κ) A := C
  refine z_aload_n C dL_depthOf_0 2 rfl ?_
  refine z_iconst (v := nI 0) C dL_depthOf_1 (by decide) ?_
  refine z_aload_n C dL_depthOf_2 0 rfl ?_
  refine z_iload_n C dL_depthOf_3 1 rfl ?_
  refine z_callV C (mX5_depthOf_ok l D κ Sa g ra f9 h9 a9 b9 p9 o9 σ M b hr hv hb) gL_depthOf_X5_depthOf rfl rfl rfl hdX5_depthOf ⟨(Nat.le_of_ble_eq_true rfl), (Nat.le_of_ble_eq_true rfl)⟩ 13 rfl rfl (OUTW κ oa fo) (fun _ => OUTW κ oa fo ++ (SW κ Sa g ++ (RC ra (Sa 0) f9 h9 a9 b9 p9 o9))) List.perm_append_comm (fun _ => List.perm_append_comm) rfl (Nat.le_of_ble_eq_true rfl) dL_depthOf_4 ⟨(Nat.le_of_ble_eq_true rfl), (Nat.le_of_ble_eq_true rfl)⟩ (fun u hu => ?_)
  refine z_i2l C dL_depthOf_7 rfl ?_
  refine z_last C 0 4 rfl rfl (i := 0) (by decide) (by decide) dL_depthOf_8 (OUTW κ oa (vp_updL fo 0 (((nI (σ (5 + 6 * b + 1)))).toInt64)) ++ (SW κ Sa g ++ (RC ra (Sa 0) f9 h9 a9 b9 p9 o9))) rfl ?_
  refine z_goto (tgt := 15) C dL_depthOf_9 (by decide) ?_
  refine z_iconst (v := nI 0) C dL_depthOf_15 (by decide) ?_
  exact zh_iret C hr9 hk u rfl hu (List.Perm.of_eq rfl) dL_depthOf_16 (Nat.le_of_ble_eq_true rfl) (Nat.le_of_ble_eq_true rfl)
theorem hdL_depthOf : yL_depthOf.cls ≠ "java/lang/invoke/MethodHandle" ∧ yL_depthOf.cls ≠ "java/lang/invoke/VarHandle" ∧ (parseMethodDescriptor yL_depthOf.desc).map (fun d => d.parameters.length) = some 3 := by decide +kernel
set_option maxRecDepth 100000 in
set_option maxHeartbeats 4000000 in
theorem mL_depthOf_no (l : Launch) (D : va_G) (κ : Nat → ClassId) (adK adV : Nat → Nat) (Sa : Nat → Nat) (g : Nat → Nat → Nat) (ra f9 h9 a9 b9 p9 o9 : Nat) (σ : Nat → Nat) (M : Nat) (x : Int32) (hls : l.stackTraces = false) (hr : Rep g σ) (hv : Inv M σ) (hx : isB (σ 1) x = false) (oa : Nat) (fo : Nat → Int64) : zH (aX adK adV) l yL_depthOf wsL_depthOf { frames := 8, cells := 1, slots := 6, locals := 124 } D (zTy κ) [.ref (ra), .int (x), .ref oa] (OUTW κ oa fo ++ (SW κ Sa g ++ (RC ra (Sa 0) f9 h9 a9 b9 p9 o9))) (S := Unit) (fun _ => some (.int (nI 1))) (fun _ => True) (fun _ => OUTW κ oa fo ++ (SW κ Sa g ++ (RC ra (Sa 0) f9 h9 a9 b9 p9 o9))) 1 6 := by
  refine zH_of (cc := cL_depthOf) (maxL := 4) (rt := some .int) (hh := [(0, 9, 12, 19)]) [(0, .ref (ra)), (1, .int (x)), (2, .ref (oa))] (by decide +kernel) rfl (Nat.le_of_ble_eq_true rfl) rfl ?_
  intro p e s m args below meth c A C hr9 hk htab hX
  have C : zC p s m args c cL_depthOf 4 wsL_depthOf RL D (zTy κ) A := C
  refine z_aload_n C dL_depthOf_0 2 rfl ?_
  refine z_iconst (v := nI 0) C dL_depthOf_1 (by decide) ?_
  refine z_aload_n C dL_depthOf_2 0 rfl ?_
  refine z_iload_n C dL_depthOf_3 1 rfl ?_
  refine zx_catchV C (aX_ok adK adV) hX (mX5_depthOf_no l D κ adK adV Sa g ra f9 h9 a9 b9 p9 o9 σ M x hls hr hv hx) gL_depthOf_X5_depthOf rfl rfl rfl hdX5_depthOf ⟨(Nat.le_of_ble_eq_true rfl), (Nat.le_of_ble_eq_true rfl)⟩ 13 rfl rfl (OUTW κ oa fo) (fun _ => OUTW κ oa fo ++ (SW κ Sa g ++ (RC ra (Sa 0) f9 h9 a9 b9 p9 o9))) List.perm_append_comm (fun _ => List.perm_append_comm) rfl (Nat.le_of_ble_eq_true rfl) dL_depthOf_4 ⟨(Nat.le_of_ble_eq_true rfl), (Nat.le_of_ble_eq_true rfl)⟩ [] ⟨0, 9, 12, 19⟩ [] htab (fun z hz => absurd hz List.not_mem_nil) (by decide) (by decide) (name := eIB) (show Cond.classLink RL 19 eIB ∈ wsL_depthOf from by decide +kernel) (hX.2.2.1 (eIB, eIB) (by simp [nCs])) (fun u q hu => ?_)
  refine z_astore_n C [(3, .ref (q)), (0, .ref (ra)), (1, .int (x)), (2, .ref (oa))] dL_depthOf_12 (by decide) rfl ?_
  refine z_iconst (v := nI 1) C dL_depthOf_13 (by decide) ?_
  exact zh_iret C hr9 hk u rfl hu (List.Perm.of_eq rfl) dL_depthOf_14 (Nat.le_of_ble_eq_true rfl) (Nat.le_of_ble_eq_true rfl)
set_option maxRecDepth 100000 in
set_option maxHeartbeats 4000000 in
theorem mL_isBend_ok (l : Launch) (D : va_G) (κ : Nat → ClassId) (Sa : Nat → Nat) (g : Nat → Nat → Nat) (ra f9 h9 a9 b9 p9 o9 : Nat) (σ : Nat → Nat) (M : Nat) (b : Nat) (hr : Rep g σ) (hv : Inv M σ) (hb : b < σ 1) (adK adV : Nat → Nat) (oa : Nat) (fo : Nat → Int64) : zH (aX adK adV) l yL_isBend wsL_isBend { frames := 2, cells := 0, slots := 0, locals := 42 } D (zTy κ) [.ref ra, .int (nI b), .ref oa] (OUTW κ oa fo ++ (SW κ Sa g ++ (RC ra (Sa 0) f9 h9 a9 b9 p9 o9))) (S := Unit) (fun _ => some (.int (nI 0))) (fun _ => True) (fun _ => OUTW κ oa (vp_updL fo 0 (((nI (decide (σ (5 + 6 * b + 3) = 1)).toNat)).toInt64)) ++ (SW κ Sa g ++ (RC ra (Sa 0) f9 h9 a9 b9 p9 o9))) 0 0 := by
  refine zH_of (cc := cL_isBend) (maxL := 4) (rt := some .int) (hh := [(0, 16, 19, 19)]) [(0, .ref (ra)), (1, .int (nI b)), (2, .ref (oa))] (by decide +kernel) rfl (Nat.le_of_ble_eq_true rfl) rfl ?_
  intro p e s m args below meth c A C hr9 hk htab hX
  have C : zC p s m args c cL_isBend 4 wsL_isBend RL D (zTy κ) A := C
  refine z_aload_n C dL_isBend_0 2 rfl ?_
  refine z_iconst (v := nI 0) C dL_isBend_1 (by decide) ?_
  refine z_aload_n C dL_isBend_2 0 rfl ?_
  refine z_iload_n C dL_isBend_3 1 rfl ?_
  refine z_callV C (mX5_isBend_ok l D κ Sa g ra f9 h9 a9 b9 p9 o9 σ M b hr hv hb) gL_isBend_X5_isBend rfl rfl rfl hdX5_isBend ⟨(Nat.le_of_ble_eq_true rfl), (Nat.le_of_ble_eq_true rfl)⟩ 13 rfl rfl (OUTW κ oa fo) (fun _ => OUTW κ oa fo ++ (SW κ Sa g ++ (RC ra (Sa 0) f9 h9 a9 b9 p9 o9))) List.perm_append_comm (fun _ => List.perm_append_comm) rfl (Nat.le_of_ble_eq_true rfl) dL_isBend_4 ⟨(Nat.le_of_ble_eq_true rfl), (Nat.le_of_ble_eq_true rfl)⟩ (fun u hu => ?_)
  refine zb_if_eq C 14 dL_isBend_7 (by decide) (fun h1 => ?_) (fun h2 => ?_)
  · refine z_lconst (v := 0) C dL_isBend_14 (by decide) ?_
    refine z_last C 0 4 rfl rfl (i := 0) (by decide) (by decide) dL_isBend_15 (OUTW κ oa (vp_updL fo 0 (0)) ++ (SW κ Sa g ++ (RC ra (Sa 0) f9 h9 a9 b9 p9 o9))) rfl ?_
    refine z_goto (tgt := 22) C dL_isBend_16 (by decide) ?_
    refine z_iconst (v := nI 0) C dL_isBend_22 (by decide) ?_
    exact zh_iret C hr9 hk u rfl hu (List.Perm.of_eq (by rw [h1]; rfl)) dL_isBend_23 (Nat.le_of_ble_eq_true rfl) (Nat.le_of_ble_eq_true rfl)
  · refine z_lconst (v := 1) C dL_isBend_10 (by decide) ?_
    refine z_goto (tgt := 15) C dL_isBend_11 (by decide) ?_
    refine z_last C 0 4 rfl rfl (i := 0) (by decide) (by decide) dL_isBend_15 (OUTW κ oa (vp_updL fo 0 (1)) ++ (SW κ Sa g ++ (RC ra (Sa 0) f9 h9 a9 b9 p9 o9))) rfl ?_
    refine z_goto (tgt := 22) C dL_isBend_16 (by decide) ?_
    refine z_iconst (v := nI 0) C dL_isBend_22 (by decide) ?_
    exact zh_iret C hr9 hk u rfl hu (List.Perm.of_eq (by rw [h2]; rfl)) dL_isBend_23 (Nat.le_of_ble_eq_true rfl) (Nat.le_of_ble_eq_true rfl)
theorem hdL_isBend : yL_isBend.cls ≠ "java/lang/invoke/MethodHandle" ∧ yL_isBend.cls ≠ "java/lang/invoke/VarHandle" ∧ (parseMethodDescriptor yL_isBend.desc).map (fun d => d.parameters.length) = some 3 := by decide +kernel
set_option maxRecDepth 100000 in
set_option maxHeartbeats 4000000 in
theorem mL_isBend_no (l : Launch) (D : va_G) (κ : Nat → ClassId) (adK adV : Nat → Nat) (Sa : Nat → Nat) (g : Nat → Nat → Nat) (ra f9 h9 a9 b9 p9 o9 : Nat) (σ : Nat → Nat) (M : Nat) (x : Int32) (hls : l.stackTraces = false) (hr : Rep g σ) (hv : Inv M σ) (hx : isB (σ 1) x = false) (oa : Nat) (fo : Nat → Int64) : zH (aX adK adV) l yL_isBend wsL_isBend { frames := 8, cells := 1, slots := 6, locals := 124 } D (zTy κ) [.ref (ra), .int (x), .ref oa] (OUTW κ oa fo ++ (SW κ Sa g ++ (RC ra (Sa 0) f9 h9 a9 b9 p9 o9))) (S := Unit) (fun _ => some (.int (nI 1))) (fun _ => True) (fun _ => OUTW κ oa fo ++ (SW κ Sa g ++ (RC ra (Sa 0) f9 h9 a9 b9 p9 o9))) 1 6 := by
  refine zH_of (cc := cL_isBend) (maxL := 4) (rt := some .int) (hh := [(0, 16, 19, 19)]) [(0, .ref (ra)), (1, .int (x)), (2, .ref (oa))] (by decide +kernel) rfl (Nat.le_of_ble_eq_true rfl) rfl ?_
  intro p e s m args below meth c A C hr9 hk htab hX
  have C : zC p s m args c cL_isBend 4 wsL_isBend RL D (zTy κ) A := C
  refine z_aload_n C dL_isBend_0 2 rfl ?_
  refine z_iconst (v := nI 0) C dL_isBend_1 (by decide) ?_
  refine z_aload_n C dL_isBend_2 0 rfl ?_
  refine z_iload_n C dL_isBend_3 1 rfl ?_
  refine zx_catchV C (aX_ok adK adV) hX (mX5_isBend_no l D κ adK adV Sa g ra f9 h9 a9 b9 p9 o9 σ M x hls hr hv hx) gL_isBend_X5_isBend rfl rfl rfl hdX5_isBend ⟨(Nat.le_of_ble_eq_true rfl), (Nat.le_of_ble_eq_true rfl)⟩ 13 rfl rfl (OUTW κ oa fo) (fun _ => OUTW κ oa fo ++ (SW κ Sa g ++ (RC ra (Sa 0) f9 h9 a9 b9 p9 o9))) List.perm_append_comm (fun _ => List.perm_append_comm) rfl (Nat.le_of_ble_eq_true rfl) dL_isBend_4 ⟨(Nat.le_of_ble_eq_true rfl), (Nat.le_of_ble_eq_true rfl)⟩ [] ⟨0, 16, 19, 19⟩ [] htab (fun z hz => absurd hz List.not_mem_nil) (by decide) (by decide) (name := eIB) (show Cond.classLink RL 19 eIB ∈ wsL_isBend from by decide +kernel) (hX.2.2.1 (eIB, eIB) (by simp [nCs])) (fun u q hu => ?_)
  refine z_astore_n C [(3, .ref (q)), (0, .ref (ra)), (1, .int (x)), (2, .ref (oa))] dL_isBend_19 (by decide) rfl ?_
  refine z_iconst (v := nI 1) C dL_isBend_20 (by decide) ?_
  exact zh_iret C hr9 hk u rfl hu (List.Perm.of_eq rfl) dL_isBend_21 (Nat.le_of_ble_eq_true rfl) (Nat.le_of_ble_eq_true rfl)
end LH
