section LB
theorem wdf_0 {σ : Nat → Nat} (h : Bal σ) : abI (nI (sumL (fun k => σ (65 + 5 * k + 0)) (σ 2) + sumL (fun k => σ (5 + 6 * k + 5)) (σ 1) + σ 3) - nI (σ 4)) = 0 := by
  show abI (nI (WL σ) - nI (σ 4)) = 0
  rw [show WL σ = σ 4 from h, Int32.sub_self]
  decide
theorem dec64 {n : Nat} (h : nb64 n) : FP.Core.decode FP.Core.b64 n ≠ .nan := by
  simp only [FP.Core.decode, FP.Core.fieldE, FP.Core.fieldT, nt64, ne64]
  simp only [nb64] at h
  intro q
  split at q
  · split at q
    · cases q
    · omega
  · split at q <;> cases q
theorem dec32 {n : Nat} (h : nb32 n) : FP.Core.decode FP.Core.b32 n ≠ .nan := by
  simp only [FP.Core.decode, FP.Core.fieldE, FP.Core.fieldT, nt32, ne32]
  simp only [nb32] at h
  intro q
  split at q
  · split at q
    · cases q
    · omega
  · split at q <;> cases q
theorem ord_self {d : FP.Core.Datum} (h : d ≠ .nan) : FP.Core.order d d = some .eq := by
  cases d with
  | nan => exact absurd rfl h
  | inf s => simp [FP.Core.order]
  | fin s c q => simp [FP.Core.order]
theorem dcmp_self {x : UInt64} (h : nb64 x.toNat) : FP.dcmp x x = some .eq := ord_self (dec64 h)
theorem fcmp_self {x : UInt32} (h : nb32 x.toNat) : FP.fcmp x x = some .eq := ord_self (dec32 h)
theorem mdF_nn (σ : Nat → Nat) (h : σ 1 < 2147483648) : nb64 (mdF σ).toNat := by
  unfold mdF
  split
  · unfold nb64
    decide
  · exact ddiv_nn (by omega) h
theorem wsF_nn (σ : Nat → Nat) (h : σ 0 * σ 2 < 2147483648) : nb32 (wsF σ).toNat := by
  unfold wsF
  split
  · unfold nb32
    decide
  · exact fdiv_nn (by omega) h
set_option maxRecDepth 100000 in
set_option maxHeartbeats 8000000 in
theorem mL_blocks (l : Launch) (D : va_G) (κ : Nat → ClassId) (Sa : Nat → Nat) (g : Nat → Nat → Nat) (ra f9 h9 a9 b9 p9 o9 : Nat) (σ : Nat → Nat) (M : Nat)  (hr : Rep g σ) (hv : Inv M σ) (hbal : Bal σ) : zM l yL_blocks wsL_blocks { frames := 3, cells := 0, slots := 0, locals := 64 } D (zTy κ) [.ref (ra)] (SW κ Sa g ++ (RC ra (Sa 0) f9 h9 a9 b9 p9 o9)) (S := Unit) (fun _ => some (.int (nI 1))) (fun _ => True) (fun _ => SW κ Sa g ++ (RC ra (Sa 0) f9 h9 a9 b9 p9 o9)) 0 0 := by
  refine zM_of (cc := cL_blocks) (maxL := 15) (rt := (some .boolean)) [(0, .ref (ra))] (by decide +kernel) rfl (Nat.le_of_ble_eq_true rfl) rfl ?_
  intro p e s m args below meth c A C hr9 hk hnm
  have C : zC p s m args c cL_blocks 15 wsL_blocks RL D (zTy κ) A := C
  have hn1 := hv.n1
  have hn2 := hv.n2
  refine z_iconst (v := nI 0) C dL_blocks_0 (by decide) ?_
  refine z_istore_n C [(1, .int (nI 0)), (0, .ref (ra))] dL_blocks_1 (by decide) rfl ?_
  refine z_iconst (v := nI 0) C dL_blocks_2 (by decide) ?_
  refine z_istore_n C [(2, .int (nI 0)), (1, .int (nI 0)), (0, .ref (ra))] dL_blocks_3 (by decide) rfl ?_
  refine z_iconst (v := (-1)) C dL_blocks_4 (by decide) ?_
  refine z_istore_n C [(3, .int ((-1 : Int32))), (2, .int (nI 0)), (1, .int (nI 0)), (0, .ref (ra))] dL_blocks_5 (by decide) rfl ?_
  refine z_iconst (v := nI 0) C dL_blocks_6 (by decide) ?_
  refine z_istore C [(4, .int (nI 0)), (3, .int ((-1 : Int32))), (2, .int (nI 0)), (1, .int (nI 0)), (0, .ref (ra))] dL_blocks_7 (by decide) rfl ?_
  refine z_iconst (v := nI 0) C dL_blocks_9 (by decide) ?_
  refine z_istore C [(5, .int (nI 0)), (4, .int (nI 0)), (3, .int ((-1 : Int32))), (2, .int (nI 0)), (1, .int (nI 0)), (0, .ref (ra))] dL_blocks_10 (by decide) rfl ?_
  refine z_iconst (v := nI 0) C dL_blocks_12 (by decide) ?_
  refine z_istore C [(6, .int (nI 0)), (5, .int (nI 0)), (4, .int (nI 0)), (3, .int ((-1 : Int32))), (2, .int (nI 0)), (1, .int (nI 0)), (0, .ref (ra))] dL_blocks_13 (by decide) rfl ?_
  refine z_aload_n C dL_blocks_15 6 rfl ?_
  refine z_callV C (mX5_blockCount l D κ Sa g ra f9 h9 a9 b9 p9 o9 σ M  hr hv) gL_blocks_X5_blockCount rfl rfl rfl hdX5_blockCount ⟨(Nat.le_of_ble_eq_true rfl), (Nat.le_of_ble_eq_true rfl)⟩ 13 rfl rfl ([]) (fun _ => SW κ Sa g ++ (RC ra (Sa 0) f9 h9 a9 b9 p9 o9)) (zp_self) (fun _ => zp_self') rfl (Nat.le_of_ble_eq_true rfl) dL_blocks_16 ⟨Nat.le_of_ble_eq_true rfl, Nat.le_of_ble_eq_true rfl⟩ (fun _ _ => ?_)
  refine z_istore C [(7, .int (nI (σ 1))), (6, .int (nI 0)), (5, .int (nI 0)), (4, .int (nI 0)), (3, .int ((-1 : Int32))), (2, .int (nI 0)), (1, .int (nI 0)), (0, .ref (ra))] dL_blocks_19 (by decide) rfl ?_
  refine z_aload_n C dL_blocks_21 7 rfl ?_
  refine z_callV C (mX5_sharedBlocks l D κ Sa g ra f9 h9 a9 b9 p9 o9 σ M  hr hv) gL_blocks_X5_sharedBlocks rfl rfl rfl hdX5_sharedBlocks ⟨(Nat.le_of_ble_eq_true rfl), (Nat.le_of_ble_eq_true rfl)⟩ 13 rfl rfl ([]) (fun _ => SW κ Sa g ++ (RC ra (Sa 0) f9 h9 a9 b9 p9 o9)) (zp_self) (fun _ => zp_self') rfl (Nat.le_of_ble_eq_true rfl) dL_blocks_22 ⟨Nat.le_of_ble_eq_true rfl, Nat.le_of_ble_eq_true rfl⟩ (fun _ _ => ?_)
  have e25 := shr_ok hv.2.1
  refine zn_if_ne C 39 dL_blocks_25 (by decide) (by omega) (fun _ => by exfalso; omega) (fun _ => ?_)
  refine z_aload_n C dL_blocks_28 7 rfl ?_
  refine z_callV C (mX5_wagonDifference l D κ Sa g ra f9 h9 a9 b9 p9 o9 σ M  hr hv) gL_blocks_X5_wagonDifference rfl rfl rfl hdX5_wagonDifference ⟨(Nat.le_of_ble_eq_true rfl), (Nat.le_of_ble_eq_true rfl)⟩ 13 rfl rfl ([]) (fun _ => SW κ Sa g ++ (RC ra (Sa 0) f9 h9 a9 b9 p9 o9)) (zp_self) (fun _ => zp_self') rfl (Nat.le_of_ble_eq_true rfl) dL_blocks_29 ⟨Nat.le_of_ble_eq_true rfl, Nat.le_of_ble_eq_true rfl⟩ (fun _ _ => ?_)
  refine z_if_ne C 39 dL_blocks_32 (by decide) (fun q => absurd (wdf_0 hbal) q) (fun _ => ?_)
  refine z_iconst (v := nI 1) C dL_blocks_35 (by decide) ?_
  refine z_goto (tgt := 40) C dL_blocks_36 (by decide) ?_
  refine z_istore C [(8, .int (nI 1)), (7, .int (nI (σ 1))), (6, .int (nI 0)), (5, .int (nI 0)), (4, .int (nI 0)), (3, .int ((-1 : Int32))), (2, .int (nI 0)), (1, .int (nI 0)), (0, .ref (ra))] dL_blocks_40 (by decide) rfl ?_
  refine z_iconst (v := nI 0) C dL_blocks_42 (by decide) ?_
  refine z_istore C [(9, .int (nI 0)), (8, .int (nI 1)), (7, .int (nI (σ 1))), (6, .int (nI 0)), (5, .int (nI 0)), (4, .int (nI 0)), (3, .int ((-1 : Int32))), (2, .int (nI 0)), (1, .int (nI 0)), (0, .ref (ra))] dL_blocks_43 (by decide) rfl ?_
  refine z_lv [9, 8, 7, 6, 5, 4, 3, 2, 1, 0] rfl ?_
  refine z_loop (σ := Nat) (fun k => SW κ Sa g ++ (RC ra (Sa 0) f9 h9 a9 b9 p9 o9)) (fun k => [(0, .ref (ra)), (1, .int (nI (sumL (fun i => if rsn σ i = 0 then 1 else 0) k))), (2, .int (nI (sumL (fun i => (!occ σ i).toNat) k))), (3, .int (tI (dpL σ k))), (4, .int (nI (sumL (fun i => σ (5 + 6 * i + 1)) k))), (5, .int (nI (sumL (fun i => σ (5 + 6 * i + 5)) k))), (6, .int (nI (mkN σ k))), (7, .int (nI (σ 1))), (8, .int (nI 1)), (9, .int (nI k))]) (fun k => k ≤ σ 1) (fun k => σ 1 - k) (0) (Nat.zero_le _) rfl rfl ?_
  rintro k hI45 ih45
  refine z_iload C dL_blocks_45 9 rfl ?_
  refine z_iload C dL_blocks_47 7 rfl ?_
  refine zn_icmp_ge C 358 dL_blocks_49 (by decide) (by omega) (by omega) (fun h1 => ?_) (fun h2 => ?_)
  · obtain rfl : k = σ 1 := by omega
    refine z_iload C dL_blocks_358 8 rfl ?_
    refine z_if_eq C 436 dL_blocks_360 (by decide) (fun q => absurd q (by decide)) (fun _ => ?_)
    refine z_aload_n C dL_blocks_363 0 rfl ?_
    refine z_callV C (mX5_freeLevers l D κ Sa g ra f9 h9 a9 b9 p9 o9 σ M  hr hv) gL_blocks_X5_freeLevers rfl rfl rfl hdX5_freeLevers ⟨(Nat.le_of_ble_eq_true rfl), (Nat.le_of_ble_eq_true rfl)⟩ 13 rfl rfl ([]) (fun _ => SW κ Sa g ++ (RC ra (Sa 0) f9 h9 a9 b9 p9 o9)) (zp_self) (fun _ => zp_self') rfl (Nat.le_of_ble_eq_true rfl) dL_blocks_364 ⟨Nat.le_of_ble_eq_true rfl, Nat.le_of_ble_eq_true rfl⟩ (fun _ _ => ?_)
    refine z_iload_n C dL_blocks_367 1 rfl ?_
    refine z_icmp_ne C 436 dL_blocks_368 (by decide) (fun q => absurd (rfl) q) (fun _ => ?_)
    refine z_aload_n C dL_blocks_371 0 rfl ?_
    refine z_callV C (mX5_emptyBlocks l D κ Sa g ra f9 h9 a9 b9 p9 o9 σ M  hr hv) gL_blocks_X5_emptyBlocks rfl rfl rfl hdX5_emptyBlocks ⟨(Nat.le_of_ble_eq_true rfl), (Nat.le_of_ble_eq_true rfl)⟩ 13 rfl rfl ([]) (fun _ => SW κ Sa g ++ (RC ra (Sa 0) f9 h9 a9 b9 p9 o9)) (zp_self) (fun _ => zp_self') rfl (Nat.le_of_ble_eq_true rfl) dL_blocks_372 ⟨Nat.le_of_ble_eq_true rfl, Nat.le_of_ble_eq_true rfl⟩ (fun _ _ => ?_)
    refine z_iload_n C dL_blocks_375 2 rfl ?_
    refine z_icmp_ne C 436 dL_blocks_376 (by decide) (fun q => absurd (rfl) q) (fun _ => ?_)
    refine z_aload_n C dL_blocks_379 0 rfl ?_
    refine z_callV C (mX5_deepestBlock l D κ Sa g ra f9 h9 a9 b9 p9 o9 σ M  hr hv) gL_blocks_X5_deepestBlock rfl rfl rfl hdX5_deepestBlock ⟨(Nat.le_of_ble_eq_true rfl), (Nat.le_of_ble_eq_true rfl)⟩ 13 rfl rfl ([]) (fun _ => SW κ Sa g ++ (RC ra (Sa 0) f9 h9 a9 b9 p9 o9)) (zp_self) (fun _ => zp_self') rfl (Nat.le_of_ble_eq_true rfl) dL_blocks_380 ⟨Nat.le_of_ble_eq_true rfl, Nat.le_of_ble_eq_true rfl⟩ (fun _ _ => ?_)
    refine z_iload_n C dL_blocks_383 3 rfl ?_
    refine z_icmp_ne C 436 dL_blocks_384 (by decide) (fun q => absurd (rfl) q) (fun _ => ?_)
    refine z_aload_n C dL_blocks_387 0 rfl ?_
    refine z_callV C (mX5_differentDepths l D κ Sa g ra f9 h9 a9 b9 p9 o9 σ M  hr hv) gL_blocks_X5_differentDepths rfl rfl rfl hdX5_differentDepths ⟨(Nat.le_of_ble_eq_true rfl), (Nat.le_of_ble_eq_true rfl)⟩ 13 rfl rfl ([]) (fun _ => SW κ Sa g ++ (RC ra (Sa 0) f9 h9 a9 b9 p9 o9)) (zp_self) (fun _ => zp_self') rfl (Nat.le_of_ble_eq_true rfl) dL_blocks_388 ⟨Nat.le_of_ble_eq_true rfl, Nat.le_of_ble_eq_true rfl⟩ (fun _ _ => ?_)
    refine z_iload C dL_blocks_391 6 rfl ?_
    refine zs_call C (mJ6_bitCount_0f7a4 l D κ (nI (mkN σ (σ 1)))) gL_blocks_J6_bitCount_0f7a4 rfl rfl rfl hdJ6_bitCount_0f7a4 ⟨(Nat.le_of_ble_eq_true rfl), (Nat.le_of_ble_eq_true rfl)⟩ rfl (Nat.le_of_ble_eq_true rfl) dL_blocks_393 ⟨Nat.le_of_ble_eq_true rfl, Nat.le_of_ble_eq_true rfl⟩ ?_
    rw [bcA_all _ (mkN_ok hv _ (Nat.le_refl _)).1, (mkN_ok hv _ (Nat.le_refl _)).2.2]
    refine z_icmp_ne C 436 dL_blocks_396 (by decide) (fun q => absurd (rfl) q) (fun _ => ?_)
    refine z_aload_n C dL_blocks_399 0 rfl ?_
    refine z_callV C (mX5_lostWagons l D κ Sa g ra f9 h9 a9 b9 p9 o9 σ M  hr hv) gL_blocks_X5_lostWagons rfl rfl rfl hdX5_lostWagons ⟨(Nat.le_of_ble_eq_true rfl), (Nat.le_of_ble_eq_true rfl)⟩ 13 rfl rfl ([]) (fun _ => SW κ Sa g ++ (RC ra (Sa 0) f9 h9 a9 b9 p9 o9)) (zp_self) (fun _ => zp_self') rfl (Nat.le_of_ble_eq_true rfl) dL_blocks_400 ⟨Nat.le_of_ble_eq_true rfl, Nat.le_of_ble_eq_true rfl⟩ (fun _ _ => ?_)
    refine z_iload C dL_blocks_403 5 rfl ?_
    refine z_icmp_ne C 436 dL_blocks_405 (by decide) (fun q => absurd (rfl) q) (fun _ => ?_)
    refine z_aload_n C dL_blocks_408 0 rfl ?_
    refine z_callV C (mX5_meanDepth l D κ Sa g ra f9 h9 a9 b9 p9 o9 σ M  hr hv) gL_blocks_X5_meanDepth rfl rfl rfl hdX5_meanDepth ⟨(Nat.le_of_ble_eq_true rfl), (Nat.le_of_ble_eq_true rfl)⟩ 13 rfl rfl ([]) (fun _ => SW κ Sa g ++ (RC ra (Sa 0) f9 h9 a9 b9 p9 o9)) (zp_self) (fun _ => zp_self') rfl (Nat.le_of_ble_eq_true rfl) dL_blocks_409 ⟨Nat.le_of_ble_eq_true rfl, Nat.le_of_ble_eq_true rfl⟩ (fun _ _ => ?_)
    refine z_iload C dL_blocks_412 7 rfl ?_
    refine zn_if_ne C 421 dL_blocks_414 (by decide) (by omega) (fun h3 => ?_) (fun h4 => ?_)
    · refine z_iload C dL_blocks_421 4 rfl ?_
      refine z_i2d C dL_blocks_423 ?_
      refine z_iload C dL_blocks_424 7 rfl ?_
      refine z_i2d C dL_blocks_426 ?_
      refine z_ddiv C dL_blocks_427 (nv64 (ddiv_nn (by omega) (by omega))) ?_
      refine z_dcmp C dL_blocks_428 ?_
      rw [show FP.ddiv (FP.i2d (nI (sumL (fun i => σ (5 + 6 * i + 1)) (σ 1)))) (FP.i2d (nI (σ 1))) = mdF σ from by unfold mdF; rw [if_neg (by omega)], dcmp_self (mdF_nn σ (by omega))]
      refine z_if_ne C 436 dL_blocks_429 (by decide) (fun q => absurd rfl q) (fun _ => ?_)
      refine z_iconst (v := nI 1) C dL_blocks_432 (by decide) ?_
      refine z_goto (tgt := 437) C dL_blocks_433 (by decide) ?_
      exact z_zret C hr9 hk (by decide) () (rfl) trivial (List.Perm.refl _) dL_blocks_437 (Nat.le_refl _) (Nat.le_refl _)
    · refine z_dconst0 C dL_blocks_417 ?_
      refine z_goto (tgt := 428) C dL_blocks_418 (by decide) ?_
      refine z_dcmp C dL_blocks_428 ?_
      rw [show FP.dconst0 = mdF σ from by unfold mdF; rw [if_pos (by omega)], dcmp_self (mdF_nn σ (by omega))]
      refine z_if_ne C 436 dL_blocks_429 (by decide) (fun q => absurd rfl q) (fun _ => ?_)
      refine z_iconst (v := nI 1) C dL_blocks_432 (by decide) ?_
      refine z_goto (tgt := 437) C dL_blocks_433 (by decide) ?_
      exact z_zret C hr9 hk (by decide) () (rfl) trivial (List.Perm.refl _) dL_blocks_437 (Nat.le_refl _) (Nat.le_refl _)
  · refine z_iload C dL_blocks_52 8 rfl ?_
    refine z_if_eq C 358 dL_blocks_54 (by decide) (fun q => absurd q (by decide)) (fun _ => ?_)
    refine z_aload_n C dL_blocks_57 0 rfl ?_
    refine z_iload C dL_blocks_58 9 rfl ?_
    refine z_callV C (mX5_trainIn_ok l D κ Sa g ra f9 h9 a9 b9 p9 o9 σ M k hr hv (by omega)) gL_blocks_X5_trainIn rfl rfl rfl hdX5_trainIn ⟨(Nat.le_of_ble_eq_true rfl), (Nat.le_of_ble_eq_true rfl)⟩ 13 rfl rfl ([]) (fun _ => SW κ Sa g ++ (RC ra (Sa 0) f9 h9 a9 b9 p9 o9)) (zp_self) (fun _ => zp_self') rfl (Nat.le_of_ble_eq_true rfl) dL_blocks_60 ⟨Nat.le_of_ble_eq_true rfl, Nat.le_of_ble_eq_true rfl⟩ (fun _ _ => ?_)
    refine z_istore C [(10, .int (tI (trAt σ k))), (0, .ref (ra)), (1, .int (nI (sumL (fun i => if rsn σ i = 0 then 1 else 0) k))), (2, .int (nI (sumL (fun i => (!occ σ i).toNat) k))), (3, .int (tI (dpL σ k))), (4, .int (nI (sumL (fun i => σ (5 + 6 * i + 1)) k))), (5, .int (nI (sumL (fun i => σ (5 + 6 * i + 5)) k))), (6, .int (nI (mkN σ k))), (7, .int (nI (σ 1))), (8, .int (nI 1)), (9, .int (nI k))] dL_blocks_63 (by decide) rfl ?_
    have hb9 := hv.blk (c := k) (by omega)
    have ht9 := trAt_le σ k
    have hr9k := rsn_le σ k
    have ha9 := aft_lt (σ := σ) (b := k) (by omega)
    have hdp9 := dpL_le σ k
    refine z_cut (α := Unit) (fun _ => True) (fun _ => SW κ Sa g ++ (RC ra (Sa 0) f9 h9 a9 b9 p9 o9)) (fun _ => [(10, .int (tI (trAt σ k))), (0, .ref (ra)), (1, .int (nI (sumL (fun i => if rsn σ i = 0 then 1 else 0) k))), (2, .int (nI (sumL (fun i => (!occ σ i).toNat) k))), (3, .int (tI (dpL σ k))), (4, .int (nI (sumL (fun i => σ (5 + 6 * i + 1)) k))), (5, .int (nI (sumL (fun i => σ (5 + 6 * i + 5)) k))), (6, .int (nI (mkN σ k))), (7, .int (nI (σ 1))), (8, .int (nI 1)), (9, .int (nI k))]) (fun _ => [.int (nI (aft σ k))]) 82 (fun _ _ => ?_) (fun cut82 => ?_)
    · refine z_istore C [(11, .int (nI (aft σ k))), (10, .int (tI (trAt σ k))), (0, .ref (ra)), (1, .int (nI (sumL (fun i => if rsn σ i = 0 then 1 else 0) k))), (2, .int (nI (sumL (fun i => (!occ σ i).toNat) k))), (3, .int (tI (dpL σ k))), (4, .int (nI (sumL (fun i => σ (5 + 6 * i + 1)) k))), (5, .int (nI (sumL (fun i => σ (5 + 6 * i + 5)) k))), (6, .int (nI (mkN σ k))), (7, .int (nI (σ 1))), (8, .int (nI 1)), (9, .int (nI k))] dL_blocks_82 (by decide) rfl ?_
      refine z_cut (α := Unit) (fun _ => True) (fun _ => SW κ Sa g ++ (RC ra (Sa 0) f9 h9 a9 b9 p9 o9)) (fun _ => [(11, .int (nI (aft σ k))), (10, .int (tI (trAt σ k))), (0, .ref (ra)), (1, .int (nI (sumL (fun i => if rsn σ i = 0 then 1 else 0) k))), (2, .int (nI (sumL (fun i => (!occ σ i).toNat) k))), (3, .int (tI (dpL σ k))), (4, .int (nI (sumL (fun i => σ (5 + 6 * i + 1)) k))), (5, .int (nI (sumL (fun i => σ (5 + 6 * i + 5)) k))), (6, .int (nI (mkN σ k))), (7, .int (nI (σ 1))), (8, .int (nI 1)), (9, .int (nI k))]) (fun _ => [.int (nI (rsn σ k))]) 142 (fun _ _ => ?_) (fun cut142 => ?_)
      · refine z_istore C [(12, .int (nI (rsn σ k))), (11, .int (nI (aft σ k))), (10, .int (tI (trAt σ k))), (0, .ref (ra)), (1, .int (nI (sumL (fun i => if rsn σ i = 0 then 1 else 0) k))), (2, .int (nI (sumL (fun i => (!occ σ i).toNat) k))), (3, .int (tI (dpL σ k))), (4, .int (nI (sumL (fun i => σ (5 + 6 * i + 1)) k))), (5, .int (nI (sumL (fun i => σ (5 + 6 * i + 5)) k))), (6, .int (nI (mkN σ k))), (7, .int (nI (σ 1))), (8, .int (nI 1)), (9, .int (nI k))] dL_blocks_142 (by decide) rfl ?_
        refine z_iconst (v := nI 0) C dL_blocks_144 (by decide) ?_
        refine z_istore C [(13, .int (nI 0)), (12, .int (nI (rsn σ k))), (11, .int (nI (aft σ k))), (10, .int (tI (trAt σ k))), (0, .ref (ra)), (1, .int (nI (sumL (fun i => if rsn σ i = 0 then 1 else 0) k))), (2, .int (nI (sumL (fun i => (!occ σ i).toNat) k))), (3, .int (tI (dpL σ k))), (4, .int (nI (sumL (fun i => σ (5 + 6 * i + 1)) k))), (5, .int (nI (sumL (fun i => σ (5 + 6 * i + 5)) k))), (6, .int (nI (mkN σ k))), (7, .int (nI (σ 1))), (8, .int (nI 1)), (9, .int (nI k))] dL_blocks_145 (by decide) rfl ?_
        refine z_iconst (v := nI 0) C dL_blocks_147 (by decide) ?_
        refine z_istore C [(14, .int (nI 0)), (13, .int (nI 0)), (12, .int (nI (rsn σ k))), (11, .int (nI (aft σ k))), (10, .int (tI (trAt σ k))), (0, .ref (ra)), (1, .int (nI (sumL (fun i => if rsn σ i = 0 then 1 else 0) k))), (2, .int (nI (sumL (fun i => (!occ σ i).toNat) k))), (3, .int (tI (dpL σ k))), (4, .int (nI (sumL (fun i => σ (5 + 6 * i + 1)) k))), (5, .int (nI (sumL (fun i => σ (5 + 6 * i + 5)) k))), (6, .int (nI (mkN σ k))), (7, .int (nI (σ 1))), (8, .int (nI 1)), (9, .int (nI k))] dL_blocks_148 (by decide) rfl ?_
        refine z_lv [0, 1, 2, 4, 5, 6, 7, 8, 9, 10, 11, 12, 13, 14] rfl ?_
        refine z_loop (σ := Nat) (fun t => SW κ Sa g ++ (RC ra (Sa 0) f9 h9 a9 b9 p9 o9)) (fun t => [(14, .int (nI t)), (13, .int (nI (sumL (fun i => σ (90 + 10 * i + k)) t))), (12, .int (nI (rsn σ k))), (10, .int (tI (trAt σ k))), (0, .ref (ra)), (1, .int (nI (sumL (fun i => if rsn σ i = 0 then 1 else 0) k))), (2, .int (nI (sumL (fun i => (!occ σ i).toNat) k))), (3, .int (tI (dpL σ k))), (4, .int (nI (sumL (fun i => σ (5 + 6 * i + 1)) k))), (5, .int (nI (sumL (fun i => σ (5 + 6 * i + 5)) k))), (6, .int (nI (mkN σ k))), (7, .int (nI (σ 1))), (8, .int (nI 1)), (9, .int (nI k))]) (fun t => t ≤ σ 2) (fun t => σ 2 - t) (0) (Nat.zero_le _) rfl rfl ?_
        rintro t hI150 ih150
        refine z_iload C dL_blocks_150 0 rfl ?_
        refine z_aload_n C dL_blocks_152 4 rfl ?_
        refine z_callV C (mX5_trainCount l D κ Sa g ra f9 h9 a9 b9 p9 o9 σ M  hr hv) gL_blocks_X5_trainCount rfl rfl rfl hdX5_trainCount ⟨(Nat.le_of_ble_eq_true rfl), (Nat.le_of_ble_eq_true rfl)⟩ 13 rfl rfl ([]) (fun _ => SW κ Sa g ++ (RC ra (Sa 0) f9 h9 a9 b9 p9 o9)) (zp_self) (fun _ => zp_self') rfl (Nat.le_of_ble_eq_true rfl) dL_blocks_153 ⟨Nat.le_of_ble_eq_true rfl, Nat.le_of_ble_eq_true rfl⟩ (fun _ _ => ?_)
        refine zn_icmp_ge C 178 dL_blocks_156 (by decide) (by omega) (by omega) (fun h5 => ?_) (fun h6 => ?_)
        · obtain rfl : t = σ 2 := by omega
          refine z_cut (α := Unit) (fun _ => True) (fun _ => SW κ Sa g ++ (RC ra (Sa 0) f9 h9 a9 b9 p9 o9)) (fun _ => [(14, .int (nI ((σ 2)))), (13, .int (nI (sumL (fun i => σ (90 + 10 * i + k)) (σ 2)))), (12, .int (nI (rsn σ k))), (10, .int (tI (trAt σ k))), (0, .ref (ra)), (1, .int (nI (sumL (fun i => if rsn σ i = 0 then 1 else 0) k))), (2, .int (nI (sumL (fun i => (!occ σ i).toNat) k))), (3, .int (tI (dpL σ k))), (4, .int (nI (sumL (fun i => σ (5 + 6 * i + 1)) k))), (5, .int (nI (sumL (fun i => σ (5 + 6 * i + 5)) k))), (6, .int (nI (mkN σ k))), (7, .int (nI (σ 1))), (8, .int (nI 1)), (9, .int (nI k))]) (fun _ => [.int (nI (if rsn σ k = 0 then 1 else 0)), .int (nI (sumL (fun i => if rsn σ i = 0 then 1 else 0) k))]) 189 (fun _ _ => ?_) (fun cut189 => ?_)
          · refine zn_iadd C dL_blocks_189 ?_
            refine z_istore_n C [(1, .int (nI ((sumL (fun i => if rsn σ i = 0 then 1 else 0) k) + (if rsn σ k = 0 then 1 else 0)))), (14, .int (nI ((σ 2)))), (13, .int (nI (sumL (fun i => σ (90 + 10 * i + k)) (σ 2)))), (12, .int (nI (rsn σ k))), (10, .int (tI (trAt σ k))), (0, .ref (ra)), (2, .int (nI (sumL (fun i => (!occ σ i).toNat) k))), (3, .int (tI (dpL σ k))), (4, .int (nI (sumL (fun i => σ (5 + 6 * i + 1)) k))), (5, .int (nI (sumL (fun i => σ (5 + 6 * i + 5)) k))), (6, .int (nI (mkN σ k))), (7, .int (nI (σ 1))), (8, .int (nI 1)), (9, .int (nI k))] dL_blocks_190 (by decide) rfl ?_
            refine z_cut (α := Unit) (fun _ => True) (fun _ => SW κ Sa g ++ (RC ra (Sa 0) f9 h9 a9 b9 p9 o9)) (fun _ => [(1, .int (nI ((sumL (fun i => if rsn σ i = 0 then 1 else 0) k) + (if rsn σ k = 0 then 1 else 0)))), (14, .int (nI ((σ 2)))), (13, .int (nI (sumL (fun i => σ (90 + 10 * i + k)) (σ 2)))), (12, .int (nI (rsn σ k))), (10, .int (tI (trAt σ k))), (0, .ref (ra)), (2, .int (nI (sumL (fun i => (!occ σ i).toNat) k))), (3, .int (tI (dpL σ k))), (4, .int (nI (sumL (fun i => σ (5 + 6 * i + 1)) k))), (5, .int (nI (sumL (fun i => σ (5 + 6 * i + 5)) k))), (6, .int (nI (mkN σ k))), (7, .int (nI (σ 1))), (8, .int (nI 1)), (9, .int (nI k))]) (fun _ => [.int (nI ((!occ σ k).toNat)), .int (nI (sumL (fun i => (!occ σ i).toNat) k))]) 206 (fun _ _ => ?_) (fun cut206 => ?_)
            · refine zn_iadd C dL_blocks_206 ?_
              refine z_istore_n C [(2, .int (nI ((sumL (fun i => (!occ σ i).toNat) k) + ((!occ σ k).toNat)))), (1, .int (nI ((sumL (fun i => if rsn σ i = 0 then 1 else 0) k) + (if rsn σ k = 0 then 1 else 0)))), (14, .int (nI ((σ 2)))), (13, .int (nI (sumL (fun i => σ (90 + 10 * i + k)) (σ 2)))), (12, .int (nI (rsn σ k))), (10, .int (tI (trAt σ k))), (0, .ref (ra)), (3, .int (tI (dpL σ k))), (4, .int (nI (sumL (fun i => σ (5 + 6 * i + 1)) k))), (5, .int (nI (sumL (fun i => σ (5 + 6 * i + 5)) k))), (6, .int (nI (mkN σ k))), (7, .int (nI (σ 1))), (8, .int (nI 1)), (9, .int (nI k))] dL_blocks_207 (by decide) rfl ?_
              refine z_cut (α := Unit) (fun _ => True) (fun _ => SW κ Sa g ++ (RC ra (Sa 0) f9 h9 a9 b9 p9 o9)) (fun _ => [(2, .int (nI ((sumL (fun i => (!occ σ i).toNat) k) + ((!occ σ k).toNat)))), (1, .int (nI ((sumL (fun i => if rsn σ i = 0 then 1 else 0) k) + (if rsn σ k = 0 then 1 else 0)))), (14, .int (nI ((σ 2)))), (13, .int (nI (sumL (fun i => σ (90 + 10 * i + k)) (σ 2)))), (12, .int (nI (rsn σ k))), (10, .int (tI (trAt σ k))), (0, .ref (ra)), (4, .int (nI (sumL (fun i => σ (5 + 6 * i + 1)) k))), (5, .int (nI (sumL (fun i => σ (5 + 6 * i + 5)) k))), (6, .int (nI (mkN σ k))), (7, .int (nI (σ 1))), (8, .int (nI 1)), (9, .int (nI k))]) (fun _ => [.int (tI (dpL σ (k + 1)))]) 232 (fun _ _ => ?_) (fun cut232 => ?_)
              · refine z_istore_n C [(3, .int (tI (dpL σ (k + 1)))), (2, .int (nI ((sumL (fun i => (!occ σ i).toNat) k) + ((!occ σ k).toNat)))), (1, .int (nI ((sumL (fun i => if rsn σ i = 0 then 1 else 0) k) + (if rsn σ k = 0 then 1 else 0)))), (14, .int (nI ((σ 2)))), (13, .int (nI (sumL (fun i => σ (90 + 10 * i + k)) (σ 2)))), (12, .int (nI (rsn σ k))), (10, .int (tI (trAt σ k))), (0, .ref (ra)), (4, .int (nI (sumL (fun i => σ (5 + 6 * i + 1)) k))), (5, .int (nI (sumL (fun i => σ (5 + 6 * i + 5)) k))), (6, .int (nI (mkN σ k))), (7, .int (nI (σ 1))), (8, .int (nI 1)), (9, .int (nI k))] dL_blocks_232 (by decide) rfl ?_
                refine z_iload C dL_blocks_233 8 rfl ?_
                refine z_aload_n C dL_blocks_235 7 rfl ?_
                refine z_iload C dL_blocks_236 13 rfl ?_
                refine z_callV C (mX5_depthOf_ok l D κ Sa g ra f9 h9 a9 b9 p9 o9 σ M k hr hv (by omega)) gL_blocks_X5_depthOf rfl rfl rfl hdX5_depthOf ⟨(Nat.le_of_ble_eq_true rfl), (Nat.le_of_ble_eq_true rfl)⟩ 13 rfl rfl ([]) (fun _ => SW κ Sa g ++ (RC ra (Sa 0) f9 h9 a9 b9 p9 o9)) (zp_self) (fun _ => zp_self') rfl (Nat.le_of_ble_eq_true rfl) dL_blocks_238 ⟨Nat.le_of_ble_eq_true rfl, Nat.le_of_ble_eq_true rfl⟩ (fun _ _ => ?_)
                refine zn_iadd C dL_blocks_241 ?_
                refine z_istore C [(4, .int (nI ((sumL (fun i => σ (5 + 6 * i + 1)) k) + (σ (5 + 6 * k + 1))))), (3, .int (tI (dpL σ (k + 1)))), (2, .int (nI ((sumL (fun i => (!occ σ i).toNat) k) + ((!occ σ k).toNat)))), (1, .int (nI ((sumL (fun i => if rsn σ i = 0 then 1 else 0) k) + (if rsn σ k = 0 then 1 else 0)))), (14, .int (nI ((σ 2)))), (13, .int (nI (sumL (fun i => σ (90 + 10 * i + k)) (σ 2)))), (12, .int (nI (rsn σ k))), (10, .int (tI (trAt σ k))), (0, .ref (ra)), (5, .int (nI (sumL (fun i => σ (5 + 6 * i + 5)) k))), (6, .int (nI (mkN σ k))), (7, .int (nI (σ 1))), (8, .int (nI 1)), (9, .int (nI k))] dL_blocks_242 (by decide) rfl ?_
                refine z_iload C dL_blocks_244 10 rfl ?_
                refine z_iconst (v := nI 1) C dL_blocks_246 (by decide) ?_
                refine z_aload_n C dL_blocks_247 8 rfl ?_
                refine z_iload C dL_blocks_248 13 rfl ?_
                refine z_callV C (mX5_depthOf_ok l D κ Sa g ra f9 h9 a9 b9 p9 o9 σ M k hr hv (by omega)) gL_blocks_X5_depthOf rfl rfl rfl hdX5_depthOf ⟨(Nat.le_of_ble_eq_true rfl), (Nat.le_of_ble_eq_true rfl)⟩ 13 rfl rfl ([]) (fun _ => SW κ Sa g ++ (RC ra (Sa 0) f9 h9 a9 b9 p9 o9)) (zp_self) (fun _ => zp_self') rfl (Nat.le_of_ble_eq_true rfl) dL_blocks_250 ⟨Nat.le_of_ble_eq_true rfl, Nat.le_of_ble_eq_true rfl⟩ (fun _ _ => ?_)
                refine z_ishl C dL_blocks_253 ?_
                refine z_ior C dL_blocks_254 ?_
                rw [(orN_all _ (by omega) _ (mkN_ok hv k (by omega)).1).1]
                refine z_istore C [(6, .int (nI (mkN σ (k + 1)))), (4, .int (nI ((sumL (fun i => σ (5 + 6 * i + 1)) k) + (σ (5 + 6 * k + 1))))), (3, .int (tI (dpL σ (k + 1)))), (2, .int (nI ((sumL (fun i => (!occ σ i).toNat) k) + ((!occ σ k).toNat)))), (1, .int (nI ((sumL (fun i => if rsn σ i = 0 then 1 else 0) k) + (if rsn σ k = 0 then 1 else 0)))), (14, .int (nI ((σ 2)))), (13, .int (nI (sumL (fun i => σ (90 + 10 * i + k)) (σ 2)))), (12, .int (nI (rsn σ k))), (10, .int (tI (trAt σ k))), (0, .ref (ra)), (5, .int (nI (sumL (fun i => σ (5 + 6 * i + 5)) k))), (7, .int (nI (σ 1))), (8, .int (nI 1)), (9, .int (nI k))] dL_blocks_255 (by decide) rfl ?_
                refine z_iload C dL_blocks_257 10 rfl ?_
                refine z_aload_n C dL_blocks_259 9 rfl ?_
                refine z_iload C dL_blocks_260 13 rfl ?_
                refine z_callV C (mX5_lostIn_ok l D κ Sa g ra f9 h9 a9 b9 p9 o9 σ M k hr hv (by omega)) gL_blocks_X5_lostIn rfl rfl rfl hdX5_lostIn ⟨(Nat.le_of_ble_eq_true rfl), (Nat.le_of_ble_eq_true rfl)⟩ 13 rfl rfl ([]) (fun _ => SW κ Sa g ++ (RC ra (Sa 0) f9 h9 a9 b9 p9 o9)) (zp_self) (fun _ => zp_self') rfl (Nat.le_of_ble_eq_true rfl) dL_blocks_262 ⟨Nat.le_of_ble_eq_true rfl, Nat.le_of_ble_eq_true rfl⟩ (fun _ _ => ?_)
                refine zn_iadd C dL_blocks_265 ?_
                refine z_istore C [(5, .int (nI ((sumL (fun i => σ (5 + 6 * i + 5)) k) + (σ (5 + 6 * k + 5))))), (6, .int (nI (mkN σ (k + 1)))), (4, .int (nI ((sumL (fun i => σ (5 + 6 * i + 1)) k) + (σ (5 + 6 * k + 1))))), (3, .int (tI (dpL σ (k + 1)))), (2, .int (nI ((sumL (fun i => (!occ σ i).toNat) k) + ((!occ σ k).toNat)))), (1, .int (nI ((sumL (fun i => if rsn σ i = 0 then 1 else 0) k) + (if rsn σ k = 0 then 1 else 0)))), (14, .int (nI ((σ 2)))), (13, .int (nI (sumL (fun i => σ (90 + 10 * i + k)) (σ 2)))), (12, .int (nI (rsn σ k))), (10, .int (tI (trAt σ k))), (0, .ref (ra)), (7, .int (nI (σ 1))), (8, .int (nI 1)), (9, .int (nI k))] dL_blocks_266 (by decide) rfl ?_
                refine z_aload_n C dL_blocks_268 10 rfl ?_
                refine z_iload C dL_blocks_269 13 rfl ?_
                refine z_callV C (mX5_obstacle_ok l D κ Sa g ra f9 h9 a9 b9 p9 o9 σ M k hr hv (by omega)) gL_blocks_X5_obstacle rfl rfl rfl hdX5_obstacle ⟨(Nat.le_of_ble_eq_true rfl), (Nat.le_of_ble_eq_true rfl)⟩ 13 rfl rfl ([]) (fun _ => SW κ Sa g ++ (RC ra (Sa 0) f9 h9 a9 b9 p9 o9)) (zp_self) (fun _ => zp_self') rfl (Nat.le_of_ble_eq_true rfl) dL_blocks_271 ⟨Nat.le_of_ble_eq_true rfl, Nat.le_of_ble_eq_true rfl⟩ (fun _ _ => ?_)
                refine z_iload C dL_blocks_274 8 rfl ?_
                refine z_icmp_ne C 349 dL_blocks_276 (by decide) (fun q => absurd (rfl) q) (fun _ => ?_)
                refine z_aload_n C dL_blocks_279 10 rfl ?_
                refine z_iload C dL_blocks_280 13 rfl ?_
                refine z_callV C (mX5_departuresFrom_ok l D κ Sa g ra f9 h9 a9 b9 p9 o9 σ M k hr hv (by omega)) gL_blocks_X5_departuresFrom rfl rfl rfl hdX5_departuresFrom ⟨(Nat.le_of_ble_eq_true rfl), (Nat.le_of_ble_eq_true rfl)⟩ 13 rfl rfl ([]) (fun _ => SW κ Sa g ++ (RC ra (Sa 0) f9 h9 a9 b9 p9 o9)) (zp_self) (fun _ => zp_self') rfl (Nat.le_of_ble_eq_true rfl) dL_blocks_282 ⟨Nat.le_of_ble_eq_true rfl, Nat.le_of_ble_eq_true rfl⟩ (fun _ _ => ?_)
                refine z_iload C dL_blocks_285 7 rfl ?_
                refine z_icmp_ne C 349 dL_blocks_287 (by decide) (fun q => absurd (rfl) q) (fun _ => ?_)
                refine z_cut (α := Unit) (fun _ => True) (fun _ => SW κ Sa g ++ (RC ra (Sa 0) f9 h9 a9 b9 p9 o9)) (fun _ => [(5, .int (nI ((sumL (fun i => σ (5 + 6 * i + 5)) k) + (σ (5 + 6 * k + 5))))), (6, .int (nI (mkN σ (k + 1)))), (4, .int (nI ((sumL (fun i => σ (5 + 6 * i + 1)) k) + (σ (5 + 6 * k + 1))))), (3, .int (tI (dpL σ (k + 1)))), (2, .int (nI ((sumL (fun i => (!occ σ i).toNat) k) + ((!occ σ k).toNat)))), (1, .int (nI ((sumL (fun i => if rsn σ i = 0 then 1 else 0) k) + (if rsn σ k = 0 then 1 else 0)))), (12, .int (nI (rsn σ k))), (0, .ref (ra)), (7, .int (nI (σ 1))), (8, .int (nI 1)), (9, .int (nI k))]) (fun _ => []) 306 (fun _ _ => ?_) (fun cut306 => ?_)
                · refine z_aload_n C dL_blocks_306 7 rfl ?_
                  refine z_iload C dL_blocks_307 10 rfl ?_
                  refine z_callV C (mX5_depthOf_ok l D κ Sa g ra f9 h9 a9 b9 p9 o9 σ M k hr hv (by omega)) gL_blocks_X5_depthOf rfl rfl rfl hdX5_depthOf ⟨(Nat.le_of_ble_eq_true rfl), (Nat.le_of_ble_eq_true rfl)⟩ 13 rfl rfl ([]) (fun _ => SW κ Sa g ++ (RC ra (Sa 0) f9 h9 a9 b9 p9 o9)) (zp_self) (fun _ => zp_self') rfl (Nat.le_of_ble_eq_true rfl) dL_blocks_309 ⟨Nat.le_of_ble_eq_true rfl, Nat.le_of_ble_eq_true rfl⟩ (fun _ _ => ?_)
                  refine zn_if_lt C 349 dL_blocks_312 (by decide) (by omega) ?_
                  refine z_aload_n C dL_blocks_315 7 rfl ?_
                  refine z_iload C dL_blocks_316 10 rfl ?_
                  refine z_callV C (mX5_depthOf_ok l D κ Sa g ra f9 h9 a9 b9 p9 o9 σ M k hr hv (by omega)) gL_blocks_X5_depthOf rfl rfl rfl hdX5_depthOf ⟨(Nat.le_of_ble_eq_true rfl), (Nat.le_of_ble_eq_true rfl)⟩ 13 rfl rfl ([]) (fun _ => SW κ Sa g ++ (RC ra (Sa 0) f9 h9 a9 b9 p9 o9)) (zp_self) (fun _ => zp_self') rfl (Nat.le_of_ble_eq_true rfl) dL_blocks_318 ⟨Nat.le_of_ble_eq_true rfl, Nat.le_of_ble_eq_true rfl⟩ (fun _ _ => ?_)
                  refine z_bipush (v := nI 9) C dL_blocks_321 (by decide) ?_
                  refine zn_icmp_gt C 349 dL_blocks_323 (by decide) (by omega) (by omega) (fun _ => by exfalso; omega) (fun _ => ?_)
                  refine z_aload_n C dL_blocks_326 7 rfl ?_
                  refine z_iload C dL_blocks_327 10 rfl ?_
                  refine z_callV C (mX5_isBend_ok l D κ Sa g ra f9 h9 a9 b9 p9 o9 σ M k hr hv (by omega)) gL_blocks_X5_isBend rfl rfl rfl hdX5_isBend ⟨(Nat.le_of_ble_eq_true rfl), (Nat.le_of_ble_eq_true rfl)⟩ 13 rfl rfl ([]) (fun _ => SW κ Sa g ++ (RC ra (Sa 0) f9 h9 a9 b9 p9 o9)) (zp_self) (fun _ => zp_self') rfl (Nat.le_of_ble_eq_true rfl) dL_blocks_329 ⟨Nat.le_of_ble_eq_true rfl, Nat.le_of_ble_eq_true rfl⟩ (fun _ _ => ?_)
                  refine zb_if_ne C 345 dL_blocks_332 (by decide) (fun h7 => ?_) (fun h8 => ?_)
                  · refine z_iconst (v := nI 1) C dL_blocks_345 (by decide) ?_
                    refine z_goto (tgt := 350) C dL_blocks_346 (by decide) ?_
                    refine z_istore C [(8, .int (nI 1)), (5, .int (nI ((sumL (fun i => σ (5 + 6 * i + 5)) k) + (σ (5 + 6 * k + 5))))), (6, .int (nI (mkN σ (k + 1)))), (4, .int (nI ((sumL (fun i => σ (5 + 6 * i + 1)) k) + (σ (5 + 6 * k + 1))))), (3, .int (tI (dpL σ (k + 1)))), (2, .int (nI ((sumL (fun i => (!occ σ i).toNat) k) + ((!occ σ k).toNat)))), (1, .int (nI ((sumL (fun i => if rsn σ i = 0 then 1 else 0) k) + (if rsn σ k = 0 then 1 else 0)))), (12, .int (nI (rsn σ k))), (0, .ref (ra)), (7, .int (nI (σ 1))), (9, .int (nI k))] dL_blocks_350 (by decide) rfl ?_
                    refine zn_iinc (n := 1) C [(9, .int (nI (k + 1))), (8, .int (nI 1)), (5, .int (nI ((sumL (fun i => σ (5 + 6 * i + 5)) k) + (σ (5 + 6 * k + 5))))), (6, .int (nI (mkN σ (k + 1)))), (4, .int (nI ((sumL (fun i => σ (5 + 6 * i + 1)) k) + (σ (5 + 6 * k + 1))))), (3, .int (tI (dpL σ (k + 1)))), (2, .int (nI ((sumL (fun i => (!occ σ i).toNat) k) + ((!occ σ k).toNat)))), (1, .int (nI ((sumL (fun i => if rsn σ i = 0 then 1 else 0) k) + (if rsn σ k = 0 then 1 else 0)))), (12, .int (nI (rsn σ k))), (0, .ref (ra)), (7, .int (nI (σ 1)))] dL_blocks_352 10 rfl (by decide) rfl ?_
                    refine z_goto (tgt := 45) C dL_blocks_355 (by decide) ?_
                    refine z_lv [9, 7, 6, 5, 4, 2, 3, 10, 1, 0] rfl ?_
                    exact ih45 (k + 1) (by omega) (by omega)
                  · have e342 := of_decide_eq_false h8
                    refine z_aload_n C dL_blocks_335 7 rfl ?_
                    refine z_iload C dL_blocks_336 10 rfl ?_
                    refine z_callV C (mX5_limitOf_ok l D κ Sa g ra f9 h9 a9 b9 p9 o9 σ M k hr hv (by omega)) gL_blocks_X5_limitOf rfl rfl rfl hdX5_limitOf ⟨(Nat.le_of_ble_eq_true rfl), (Nat.le_of_ble_eq_true rfl)⟩ 13 rfl rfl ([]) (fun _ => SW κ Sa g ++ (RC ra (Sa 0) f9 h9 a9 b9 p9 o9)) (zp_self) (fun _ => zp_self') rfl (Nat.le_of_ble_eq_true rfl) dL_blocks_338 ⟨Nat.le_of_ble_eq_true rfl, Nat.le_of_ble_eq_true rfl⟩ (fun _ _ => ?_)
                    refine z_iconst (v := nI 5) C dL_blocks_341 (by decide) ?_
                    refine zn_icmp_ne C 349 dL_blocks_342 (by decide) (by omega) (by omega) (fun _ => by exfalso; omega) (fun _ => ?_)
                    refine z_iconst (v := nI 1) C dL_blocks_345 (by decide) ?_
                    refine z_goto (tgt := 350) C dL_blocks_346 (by decide) ?_
                    refine z_istore C [(8, .int (nI 1)), (5, .int (nI ((sumL (fun i => σ (5 + 6 * i + 5)) k) + (σ (5 + 6 * k + 5))))), (6, .int (nI (mkN σ (k + 1)))), (4, .int (nI ((sumL (fun i => σ (5 + 6 * i + 1)) k) + (σ (5 + 6 * k + 1))))), (3, .int (tI (dpL σ (k + 1)))), (2, .int (nI ((sumL (fun i => (!occ σ i).toNat) k) + ((!occ σ k).toNat)))), (1, .int (nI ((sumL (fun i => if rsn σ i = 0 then 1 else 0) k) + (if rsn σ k = 0 then 1 else 0)))), (12, .int (nI (rsn σ k))), (0, .ref (ra)), (7, .int (nI (σ 1))), (9, .int (nI k))] dL_blocks_350 (by decide) rfl ?_
                    refine zn_iinc (n := 1) C [(9, .int (nI (k + 1))), (8, .int (nI 1)), (5, .int (nI ((sumL (fun i => σ (5 + 6 * i + 5)) k) + (σ (5 + 6 * k + 5))))), (6, .int (nI (mkN σ (k + 1)))), (4, .int (nI ((sumL (fun i => σ (5 + 6 * i + 1)) k) + (σ (5 + 6 * k + 1))))), (3, .int (tI (dpL σ (k + 1)))), (2, .int (nI ((sumL (fun i => (!occ σ i).toNat) k) + ((!occ σ k).toNat)))), (1, .int (nI ((sumL (fun i => if rsn σ i = 0 then 1 else 0) k) + (if rsn σ k = 0 then 1 else 0)))), (12, .int (nI (rsn σ k))), (0, .ref (ra)), (7, .int (nI (σ 1)))] dL_blocks_352 10 rfl (by decide) rfl ?_
                    refine z_goto (tgt := 45) C dL_blocks_355 (by decide) ?_
                    refine z_lv [9, 7, 6, 5, 4, 2, 3, 10, 1, 0] rfl ?_
                    exact ih45 (k + 1) (by omega) (by omega)
                refine z_iload C dL_blocks_290 9 rfl ?_
                refine zt_if_lt C 306 dL_blocks_292 (by decide) (by omega) (fun h9 => ?_) (fun h10 => ?_)
                · refine z_lv [0, 1, 2, 3, 4, 5, 8, 10, 11, 12, 13] rfl ?_
                  exact z_eq (cut306 () trivial) rfl (rfl) rfl (rfl)
                · rw [tI_pos h10]
                  have e303 : σ (65 + 5 * (trAt σ k - 1) + 2) = k := (trL_some σ k (σ 2) 0 h10).2
                  refine z_aload_n C dL_blocks_295 10 rfl ?_
                  refine z_iload C dL_blocks_296 9 rfl ?_
                  refine z_callV C (mX5_blockOf_ok l D κ Sa g ra f9 h9 a9 b9 p9 o9 σ M (trAt σ k - 1) hr hv (by omega)) gL_blocks_X5_blockOf rfl rfl rfl hdX5_blockOf ⟨(Nat.le_of_ble_eq_true rfl), (Nat.le_of_ble_eq_true rfl)⟩ 13 rfl rfl ([]) (fun _ => SW κ Sa g ++ (RC ra (Sa 0) f9 h9 a9 b9 p9 o9)) (zp_self) (fun _ => zp_self') rfl (Nat.le_of_ble_eq_true rfl) dL_blocks_298 ⟨Nat.le_of_ble_eq_true rfl, Nat.le_of_ble_eq_true rfl⟩ (fun _ _ => ?_)
                  refine z_iload C dL_blocks_301 13 rfl ?_
                  refine zn_icmp_ne C 349 dL_blocks_303 (by decide) (by omega) (by omega) (fun _ => by exfalso; omega) (fun _ => ?_)
                  refine z_lv [0, 1, 2, 3, 4, 5, 8, 10, 11, 12, 13] rfl ?_
                  exact z_eq (cut306 () trivial) rfl (rfl) rfl (rfl)
              refine z_iload_n C dL_blocks_208 7 rfl ?_
              refine zt_if_lt C 226 dL_blocks_209 (by decide) (by omega) (fun h11 => ?_) (fun h12 => ?_)
              · refine z_iload C dL_blocks_226 13 rfl ?_
                refine z_goto (tgt := 232) C dL_blocks_228 (by decide) ?_
                refine z_lv [0, 1, 2, 3, 4, 5, 6, 8, 9, 10, 11, 12, 13] rfl ?_
                exact z_eq (cut232 () trivial) rfl (rfl) rfl (congrArg (fun x => [Value.int x]) (show nI (k) = tI (dpL σ (k + 1)) from by simp only [dpL]; rw [if_pos h11]; rfl))
              · rw [tI_pos h12]
                have hdb9 := hv.blk (c := dpL σ k - 1) (by omega)
                refine z_aload_n C dL_blocks_212 6 rfl ?_
                refine z_iload C dL_blocks_213 13 rfl ?_
                refine z_callV C (mX5_depthOf_ok l D κ Sa g ra f9 h9 a9 b9 p9 o9 σ M k hr hv (by omega)) gL_blocks_X5_depthOf rfl rfl rfl hdX5_depthOf ⟨(Nat.le_of_ble_eq_true rfl), (Nat.le_of_ble_eq_true rfl)⟩ 13 rfl rfl ([]) (fun _ => SW κ Sa g ++ (RC ra (Sa 0) f9 h9 a9 b9 p9 o9)) (zp_self) (fun _ => zp_self') rfl (Nat.le_of_ble_eq_true rfl) dL_blocks_215 ⟨Nat.le_of_ble_eq_true rfl, Nat.le_of_ble_eq_true rfl⟩ (fun _ _ => ?_)
                refine z_aload_n C dL_blocks_218 6 rfl ?_
                refine z_iload_n C dL_blocks_219 7 rfl ?_
                refine z_callV C (mX5_depthOf_ok l D κ Sa g ra f9 h9 a9 b9 p9 o9 σ M (dpL σ k - 1) hr hv (by omega)) gL_blocks_X5_depthOf rfl rfl rfl hdX5_depthOf ⟨(Nat.le_of_ble_eq_true rfl), (Nat.le_of_ble_eq_true rfl)⟩ 13 rfl rfl ([]) (fun _ => SW κ Sa g ++ (RC ra (Sa 0) f9 h9 a9 b9 p9 o9)) (zp_self) (fun _ => zp_self') rfl (Nat.le_of_ble_eq_true rfl) dL_blocks_220 ⟨Nat.le_of_ble_eq_true rfl, Nat.le_of_ble_eq_true rfl⟩ (fun _ _ => ?_)
                refine zn_icmp_le C 231 dL_blocks_223 (by decide) (by omega) (by omega) (fun h13 => ?_) (fun h14 => ?_)
                · refine z_iload_n C dL_blocks_231 7 rfl ?_
                  refine z_lv [0, 1, 2, 3, 4, 5, 6, 8, 9, 10, 11, 12, 13] rfl ?_
                  exact z_eq (cut232 () trivial) rfl (rfl) rfl (congrArg (fun x => [Value.int x]) (show nI (dpL σ k - 1) = tI (dpL σ (k + 1)) from by simp only [dpL]; rw [if_neg (by omega), if_neg (by omega)]; exact (tI_pos (by omega)).symm))
                · refine z_iload C dL_blocks_226 13 rfl ?_
                  refine z_goto (tgt := 232) C dL_blocks_228 (by decide) ?_
                  refine z_lv [0, 1, 2, 3, 4, 5, 6, 8, 9, 10, 11, 12, 13] rfl ?_
                  exact z_eq (cut232 () trivial) rfl (rfl) rfl (congrArg (fun x => [Value.int x]) (show nI (k) = tI (dpL σ (k + 1)) from by simp only [dpL]; rw [if_neg (by omega), if_pos h14]; rfl))
            refine z_iload_n C dL_blocks_191 6 rfl ?_
            refine z_aload_n C dL_blocks_192 5 rfl ?_
            refine z_iload C dL_blocks_193 13 rfl ?_
            refine z_callS C (mL_occupied l D κ Sa g ra f9 h9 a9 b9 p9 o9 σ M k hr hv (by omega)) gL_blocks_L_occupied rfl rfl rfl hdL_occupied ⟨(Nat.le_of_ble_eq_true rfl), (Nat.le_of_ble_eq_true rfl)⟩ ([]) (fun _ => SW κ Sa g ++ (RC ra (Sa 0) f9 h9 a9 b9 p9 o9)) (zp_self) (fun _ => zp_self') rfl (Nat.le_of_ble_eq_true rfl) dL_blocks_195 ⟨Nat.le_of_ble_eq_true rfl, Nat.le_of_ble_eq_true rfl⟩ (fun _ _ => ?_)
            refine zb_if_eq C 205 dL_blocks_198 (by decide) (fun h15 => ?_) (fun h16 => ?_)
            · refine z_iconst (v := nI 1) C dL_blocks_205 (by decide) ?_
              refine z_lv [0, 1, 2, 3, 4, 5, 6, 7, 8, 9, 10, 11, 12, 13] rfl ?_
              exact z_eq (cut206 () trivial) rfl (rfl) rfl (congrArg (fun n => [Value.int (nI n), _]) (show 1 = (!occ σ k).toNat from by rw [h15]; rfl))
            · refine z_iconst (v := nI 0) C dL_blocks_201 (by decide) ?_
              refine z_goto (tgt := 206) C dL_blocks_202 (by decide) ?_
              refine z_lv [0, 1, 2, 3, 4, 5, 6, 7, 8, 9, 10, 11, 12, 13] rfl ?_
              exact z_eq (cut206 () trivial) rfl (rfl) rfl (congrArg (fun n => [Value.int (nI n), _]) (show 0 = (!occ σ k).toNat from by rw [h16]; rfl))
          refine z_iload_n C dL_blocks_178 5 rfl ?_
          refine z_iload C dL_blocks_179 2 rfl ?_
          refine zn_if_ne C 188 dL_blocks_181 (by decide) (by omega) (fun h17 => ?_) (fun h18 => ?_)
          · refine z_iconst (v := nI 0) C dL_blocks_188 (by decide) ?_
            refine z_lv [0, 1, 2, 3, 4, 5, 6, 7, 8, 9, 10, 11, 12, 13] rfl ?_
            exact z_eq (cut189 () trivial) rfl (rfl) rfl (congrArg (fun n => [Value.int (nI n), _]) (show 0 = (if rsn σ k = 0 then 1 else 0) from by rw [if_neg (by omega)]))
          · refine z_iconst (v := nI 1) C dL_blocks_184 (by decide) ?_
            refine z_goto (tgt := 189) C dL_blocks_185 (by decide) ?_
            refine z_lv [0, 1, 2, 3, 4, 5, 6, 7, 8, 9, 10, 11, 12, 13] rfl ?_
            exact z_eq (cut189 () trivial) rfl (rfl) rfl (congrArg (fun n => [Value.int (nI n), _]) (show 1 = (if rsn σ k = 0 then 1 else 0) from by rw [if_pos (by omega)]))
        · refine z_iload C dL_blocks_159 1 rfl ?_
          refine z_aload_n C dL_blocks_161 4 rfl ?_
          refine z_iload C dL_blocks_162 0 rfl ?_
          refine z_iload C dL_blocks_164 13 rfl ?_
          refine z_callV C (mX5_passages_ok l D κ Sa g ra f9 h9 a9 b9 p9 o9 σ M t k hr hv (by omega) (by omega)) gL_blocks_X5_passages rfl rfl rfl hdX5_passages ⟨(Nat.le_of_ble_eq_true rfl), (Nat.le_of_ble_eq_true rfl)⟩ 13 rfl rfl ([]) (fun _ => SW κ Sa g ++ (RC ra (Sa 0) f9 h9 a9 b9 p9 o9)) (zp_self) (fun _ => zp_self') rfl (Nat.le_of_ble_eq_true rfl) dL_blocks_166 ⟨Nat.le_of_ble_eq_true rfl, Nat.le_of_ble_eq_true rfl⟩ (fun _ _ => ?_)
          refine zn_iadd C dL_blocks_169 ?_
          refine z_istore C [(13, .int (nI ((sumL (fun i => σ (90 + 10 * i + k)) t) + (σ (90 + 10 * t + k))))), (14, .int (nI t)), (12, .int (nI (rsn σ k))), (10, .int (tI (trAt σ k))), (0, .ref (ra)), (1, .int (nI (sumL (fun i => if rsn σ i = 0 then 1 else 0) k))), (2, .int (nI (sumL (fun i => (!occ σ i).toNat) k))), (3, .int (tI (dpL σ k))), (4, .int (nI (sumL (fun i => σ (5 + 6 * i + 1)) k))), (5, .int (nI (sumL (fun i => σ (5 + 6 * i + 5)) k))), (6, .int (nI (mkN σ k))), (7, .int (nI (σ 1))), (8, .int (nI 1)), (9, .int (nI k))] dL_blocks_170 (by decide) rfl ?_
          refine zn_iinc (n := 1) C [(14, .int (nI (t + 1))), (13, .int (nI ((sumL (fun i => σ (90 + 10 * i + k)) t) + (σ (90 + 10 * t + k))))), (12, .int (nI (rsn σ k))), (10, .int (tI (trAt σ k))), (0, .ref (ra)), (1, .int (nI (sumL (fun i => if rsn σ i = 0 then 1 else 0) k))), (2, .int (nI (sumL (fun i => (!occ σ i).toNat) k))), (3, .int (tI (dpL σ k))), (4, .int (nI (sumL (fun i => σ (5 + 6 * i + 1)) k))), (5, .int (nI (sumL (fun i => σ (5 + 6 * i + 5)) k))), (6, .int (nI (mkN σ k))), (7, .int (nI (σ 1))), (8, .int (nI 1)), (9, .int (nI k))] dL_blocks_172 1 rfl (by decide) rfl ?_
          refine z_goto (tgt := 150) C dL_blocks_175 (by decide) ?_
          refine z_lv [0, 1, 2, 3, 4, 5, 6, 7, 8, 9, 10, 11, 12, 13] rfl ?_
          exact ih150 (t + 1) (by omega) (by omega)
      refine z_iload C dL_blocks_84 1 rfl ?_
      refine zt_if_lt C 93 dL_blocks_86 (by decide) (by omega) (fun h19 => ?_) (fun h20 => ?_)
      · refine z_aload_n C dL_blocks_93 2 rfl ?_
        refine z_iload C dL_blocks_94 11 rfl ?_
        refine z_callV C (mX5_lostIn_ok l D κ Sa g ra f9 h9 a9 b9 p9 o9 σ M k hr hv (by omega)) gL_blocks_X5_lostIn rfl rfl rfl hdX5_lostIn ⟨(Nat.le_of_ble_eq_true rfl), (Nat.le_of_ble_eq_true rfl)⟩ 13 rfl rfl ([]) (fun _ => SW κ Sa g ++ (RC ra (Sa 0) f9 h9 a9 b9 p9 o9)) (zp_self) (fun _ => zp_self') rfl (Nat.le_of_ble_eq_true rfl) dL_blocks_96 ⟨Nat.le_of_ble_eq_true rfl, Nat.le_of_ble_eq_true rfl⟩ (fun _ _ => ?_)
        refine zn_if_le C 106 dL_blocks_99 (by decide) (by omega) (fun h21 => ?_) (fun h22 => ?_)
        · refine z_aload_n C dL_blocks_106 2 rfl ?_
          refine z_iload C dL_blocks_107 11 rfl ?_
          refine z_callV C (mX5_isClear_ok l D κ Sa g ra f9 h9 a9 b9 p9 o9 σ M k hr hv (by omega)) gL_blocks_X5_isClear rfl rfl rfl hdX5_isClear ⟨(Nat.le_of_ble_eq_true rfl), (Nat.le_of_ble_eq_true rfl)⟩ 13 rfl rfl ([]) (fun _ => SW κ Sa g ++ (RC ra (Sa 0) f9 h9 a9 b9 p9 o9)) (zp_self) (fun _ => zp_self') rfl (Nat.le_of_ble_eq_true rfl) dL_blocks_109 ⟨Nat.le_of_ble_eq_true rfl, Nat.le_of_ble_eq_true rfl⟩ (fun _ _ => ?_)
          refine zb_if_eq C 119 dL_blocks_112 (by decide) (fun h23 => ?_) (fun h24 => ?_)
          · refine z_aload_n C dL_blocks_119 2 rfl ?_
            refine z_iload C dL_blocks_120 11 rfl ?_
            refine z_callV C (mX5_isBend_ok l D κ Sa g ra f9 h9 a9 b9 p9 o9 σ M k hr hv (by omega)) gL_blocks_X5_isBend rfl rfl rfl hdX5_isBend ⟨(Nat.le_of_ble_eq_true rfl), (Nat.le_of_ble_eq_true rfl)⟩ 13 rfl rfl ([]) (fun _ => SW κ Sa g ++ (RC ra (Sa 0) f9 h9 a9 b9 p9 o9)) (zp_self) (fun _ => zp_self') rfl (Nat.le_of_ble_eq_true rfl) dL_blocks_122 ⟨Nat.le_of_ble_eq_true rfl, Nat.le_of_ble_eq_true rfl⟩ (fun _ _ => ?_)
            refine zb_if_eq C 141 dL_blocks_125 (by decide) (fun h25 => ?_) (fun h26 => ?_)
            · refine z_iconst (v := nI 0) C dL_blocks_141 (by decide) ?_
              refine z_lv [0, 1, 2, 3, 4, 5, 6, 7, 8, 9, 10, 11] rfl ?_
              exact z_eq (cut142 () trivial) rfl (rfl) rfl (congrArg (fun n => [Value.int (nI n)]) (show 0 = rsn σ k from by simp only [rsn]; rw [if_neg (by omega), if_neg (by omega), if_neg (of_decide_eq_false h23), if_neg (of_decide_eq_false h25)]))
            · refine z_aload_n C dL_blocks_128 2 rfl ?_
              refine z_iload C dL_blocks_129 0 rfl ?_
              refine z_callS C (mL_occupied l D κ Sa g ra f9 h9 a9 b9 p9 o9 σ M (aft σ k) hr hv (by omega)) gL_blocks_L_occupied rfl rfl rfl hdL_occupied ⟨(Nat.le_of_ble_eq_true rfl), (Nat.le_of_ble_eq_true rfl)⟩ ([]) (fun _ => SW κ Sa g ++ (RC ra (Sa 0) f9 h9 a9 b9 p9 o9)) (zp_self) (fun _ => zp_self') rfl (Nat.le_of_ble_eq_true rfl) dL_blocks_131 ⟨Nat.le_of_ble_eq_true rfl, Nat.le_of_ble_eq_true rfl⟩ (fun _ _ => ?_)
              refine zb_if_eq C 141 dL_blocks_134 (by decide) (fun h27 => ?_) (fun h28 => ?_)
              · refine z_iconst (v := nI 0) C dL_blocks_141 (by decide) ?_
                refine z_lv [0, 1, 2, 3, 4, 5, 6, 7, 8, 9, 10, 11] rfl ?_
                exact z_eq (cut142 () trivial) rfl (rfl) rfl (congrArg (fun n => [Value.int (nI n)]) (show 0 = rsn σ k from by simp only [rsn]; rw [if_neg (by omega), if_neg (by omega), if_neg (of_decide_eq_false h23), if_pos (of_decide_eq_true h26), if_neg (by rw [h27]; decide)]))
              · refine z_iconst (v := nI 4) C dL_blocks_137 (by decide) ?_
                refine z_goto (tgt := 142) C dL_blocks_138 (by decide) ?_
                refine z_lv [0, 1, 2, 3, 4, 5, 6, 7, 8, 9, 10, 11] rfl ?_
                exact z_eq (cut142 () trivial) rfl (rfl) rfl (congrArg (fun n => [Value.int (nI n)]) (show 4 = rsn σ k from by simp only [rsn]; rw [if_neg (by omega), if_neg (by omega), if_neg (of_decide_eq_false h23), if_pos (of_decide_eq_true h26), if_pos h28]))
          · refine z_iconst (v := nI 3) C dL_blocks_115 (by decide) ?_
            refine z_goto (tgt := 142) C dL_blocks_116 (by decide) ?_
            refine z_lv [0, 1, 2, 3, 4, 5, 6, 7, 8, 9, 10, 11] rfl ?_
            exact z_eq (cut142 () trivial) rfl (rfl) rfl (congrArg (fun n => [Value.int (nI n)]) (show 3 = rsn σ k from by simp only [rsn]; rw [if_neg (by omega), if_neg (by omega), if_pos (of_decide_eq_true h24)]))
        · refine z_iconst (v := nI 2) C dL_blocks_102 (by decide) ?_
          refine z_goto (tgt := 142) C dL_blocks_103 (by decide) ?_
          refine z_lv [0, 1, 2, 3, 4, 5, 6, 7, 8, 9, 10, 11] rfl ?_
          exact z_eq (cut142 () trivial) rfl (rfl) rfl (congrArg (fun n => [Value.int (nI n)]) (show 2 = rsn σ k from by simp only [rsn]; rw [if_neg (by omega), if_pos h22]))
      · refine z_iconst (v := nI 1) C dL_blocks_89 (by decide) ?_
        refine z_goto (tgt := 142) C dL_blocks_90 (by decide) ?_
        refine z_lv [0, 1, 2, 3, 4, 5, 6, 7, 8, 9, 10, 11] rfl ?_
        exact z_eq (cut142 () trivial) rfl (rfl) rfl (congrArg (fun n => [Value.int (nI n)]) (show 1 = rsn σ k from by simp only [rsn]; rw [if_pos h20]))
    refine z_iload C dL_blocks_65 10 rfl ?_
    refine z_iconst (v := nI 1) C dL_blocks_67 (by decide) ?_
    refine zn_iadd C dL_blocks_68 ?_
    refine z_iload C dL_blocks_69 8 rfl ?_
    refine zn_icmp_ne C 78 dL_blocks_71 (by decide) (by omega) (by omega) (fun h29 => ?_) (fun h30 => ?_)
    · refine z_iload C dL_blocks_78 10 rfl ?_
      refine z_iconst (v := nI 1) C dL_blocks_80 (by decide) ?_
      refine zn_iadd C dL_blocks_81 ?_
      refine z_lv [0, 1, 2, 3, 4, 5, 6, 7, 8, 9, 10] rfl ?_
      exact z_eq (cut82 () trivial) rfl (rfl) rfl (congrArg (fun n => [Value.int (nI n)]) (show k + 1 = aft σ k from by simp only [aft]; rw [if_neg (by omega)]))
    · refine z_iconst (v := nI 0) C dL_blocks_74 (by decide) ?_
      refine z_goto (tgt := 82) C dL_blocks_75 (by decide) ?_
      refine z_lv [0, 1, 2, 3, 4, 5, 6, 7, 8, 9, 10] rfl ?_
      exact z_eq (cut82 () trivial) rfl (rfl) rfl (congrArg (fun n => [Value.int (nI n)]) (show 0 = aft σ k from by simp only [aft]; rw [if_pos (by omega)]))
theorem hdL_blocks : yL_blocks.cls ≠ "java/lang/invoke/MethodHandle" ∧ yL_blocks.cls ≠ "java/lang/invoke/VarHandle" ∧ (parseMethodDescriptor yL_blocks.desc).map (fun d => d.parameters.length) = some 1 := by decide +kernel
end LB
