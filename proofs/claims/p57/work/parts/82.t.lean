section LT
theorem ahL_le (σ : Nat → Nat) (p : Nat) : ∀ s, ahL σ p s ≤ σ 2
  | 0 => Nat.zero_le _
  | s + 1 => by
    have h1 := ahL_le σ p s
    have h2 := trAt_le σ ((p + (s + 1)) % σ 1)
    simp only [ahL]
    split <;> assumption
set_option maxRecDepth 100000 in
set_option maxHeartbeats 16000000 in
theorem mL_trains (l : Launch) (D : va_G) (κ : Nat → ClassId) (Sf Sa : Nat → Nat) (f g : Nat → Nat → Nat) (ra h9 a9 b9 p9 o9 : Nat) (σ : Nat → Nat) (M : Nat) (hr : Rep g σ) (hv : Inv M σ) (hM : M + 2300 < 1073741824) (h0 : σ 0 ≤ 9999) : zM l yL_trains wsL_trains { frames := 5, cells := 0, slots := 0, locals := 114 } D (zTy κ) [.ref (ra)] (SW κ Sf f ++ (SW κ Sa g ++ (RC ra (Sa 0) (Sf 0) h9 a9 b9 p9 o9))) (S := Nat → Nat → Nat) (fun u => some (.int (nI 1))) (fun u => True) (fun u => SW κ Sf u ++ (SW κ Sa g ++ (RC ra (Sa 0) (Sf 0) h9 a9 b9 p9 o9))) 0 0 := by
  refine zM_of (cc := cL_trains) (maxL := 15) (rt := (some .boolean)) [(0, .ref (ra))] (by decide +kernel) rfl (Nat.le_of_ble_eq_true rfl) rfl ?_
  intro p e s m args below meth c A C hr9 hk hnm
  have C : zC p s m args c cL_trains 15 wsL_trains RL D (zTy κ) A := C
  have hn1 := hv.n1
  have hn2 := hv.n2
  refine z_iconst (v := nI 0) C dL_trains_0 (by decide) ?_
  refine z_istore_n C [(1, .int (nI 0)), (0, .ref (ra))] dL_trains_1 (by decide) rfl ?_
  refine z_iconst (v := nI 0) C dL_trains_2 (by decide) ?_
  refine z_istore_n C [(2, .int (nI 0)), (1, .int (nI 0)), (0, .ref (ra))] dL_trains_3 (by decide) rfl ?_
  refine z_iconst (v := nI 0) C dL_trains_4 (by decide) ?_
  refine z_istore_n C [(3, .int (nI 0)), (2, .int (nI 0)), (1, .int (nI 0)), (0, .ref (ra))] dL_trains_5 (by decide) rfl ?_
  refine z_aload_n C dL_trains_6 3 rfl ?_
  refine z_callV C (mX5_blockCount l D κ Sa g ra (Sf 0) h9 a9 b9 p9 o9 σ M  hr hv) gL_trains_X5_blockCount rfl rfl rfl hdX5_blockCount ⟨(Nat.le_of_ble_eq_true rfl), (Nat.le_of_ble_eq_true rfl)⟩ 13 rfl rfl (SW κ Sf f) (fun _ => SW κ Sf f ++ (SW κ Sa g ++ (RC ra (Sa 0) (Sf 0) h9 a9 b9 p9 o9))) (List.perm_append_comm) (fun _ => List.perm_append_comm) rfl (Nat.le_of_ble_eq_true rfl) dL_trains_7 ⟨Nat.le_of_ble_eq_true rfl, Nat.le_of_ble_eq_true rfl⟩ (fun _ _ => ?_)
  refine z_istore C [(4, .int (nI (σ 1))), (3, .int (nI 0)), (2, .int (nI 0)), (1, .int (nI 0)), (0, .ref (ra))] dL_trains_10 (by decide) rfl ?_
  refine z_iconst (v := nI 1) C dL_trains_12 (by decide) ?_
  refine z_istore C [(5, .int (nI 1)), (4, .int (nI (σ 1))), (3, .int (nI 0)), (2, .int (nI 0)), (1, .int (nI 0)), (0, .ref (ra))] dL_trains_13 (by decide) rfl ?_
  refine z_iconst (v := nI 0) C dL_trains_15 (by decide) ?_
  refine z_istore C [(6, .int (nI 0)), (5, .int (nI 1)), (4, .int (nI (σ 1))), (3, .int (nI 0)), (2, .int (nI 0)), (1, .int (nI 0)), (0, .ref (ra))] dL_trains_16 (by decide) rfl ?_
  refine z_lv [6, 5, 4, 3, 2, 1, 0] rfl ?_
  refine z_loop (σ := Nat × (Nat → Nat → Nat)) (fun x => SW κ Sf x.2 ++ (SW κ Sa g ++ (RC ra (Sa 0) (Sf 0) h9 a9 b9 p9 o9))) (fun x => [(0, .ref (ra)), (1, .int (nI (sumL (fun i => σ (65 + 5 * i + 0)) x.1))), (2, .int (nI (sumL (fun i => σ (65 + 5 * i + 4)) x.1))), (3, .int (nI (sumL (fun i => sumL (fun b => if 0 < σ (90 + 10 * i + b) then 1 else 0) (σ 1)) x.1))), (4, .int (nI (σ 1))), (5, .int (nI 1)), (6, .int (nI x.1))]) (fun x => x.1 ≤ σ 2) (fun x => σ 2 - x.1) ((0, f)) (Nat.zero_le _) rfl rfl ?_
  rintro ⟨k, f⟩ hI18 ih18
  dsimp only at hI18 ih18 ⊢
  refine z_iload C dL_trains_18 6 rfl ?_
  refine z_aload_n C dL_trains_20 0 rfl ?_
  refine z_callV C (mX5_trainCount l D κ Sa g ra (Sf 0) h9 a9 b9 p9 o9 σ M  hr hv) gL_trains_X5_trainCount rfl rfl rfl hdX5_trainCount ⟨(Nat.le_of_ble_eq_true rfl), (Nat.le_of_ble_eq_true rfl)⟩ 13 rfl rfl (SW κ Sf f) (fun _ => SW κ Sf f ++ (SW κ Sa g ++ (RC ra (Sa 0) (Sf 0) h9 a9 b9 p9 o9))) (List.perm_append_comm) (fun _ => List.perm_append_comm) rfl (Nat.le_of_ble_eq_true rfl) dL_trains_21 ⟨Nat.le_of_ble_eq_true rfl, Nat.le_of_ble_eq_true rfl⟩ (fun _ _ => ?_)
  refine zn_icmp_ge C 384 dL_trains_24 (by decide) (by omega) (by omega) (fun h1 => ?_) (fun h2 => ?_)
  · obtain rfl : k = σ 2 := by omega
    have hml : σ 0 * σ 2 ≤ 9999 * 5 := Nat.mul_le_mul h0 hn2
    refine z_aload_n C dL_trains_384 0 rfl ?_
    refine z_callV C (mX5_tick l D κ Sa g ra (Sf 0) h9 a9 b9 p9 o9 σ M  hr hv) gL_trains_X5_tick rfl rfl rfl hdX5_tick ⟨(Nat.le_of_ble_eq_true rfl), (Nat.le_of_ble_eq_true rfl)⟩ 13 rfl rfl (SW κ Sf f) (fun _ => SW κ Sf f ++ (SW κ Sa g ++ (RC ra (Sa 0) (Sf 0) h9 a9 b9 p9 o9))) (List.perm_append_comm) (fun _ => List.perm_append_comm) rfl (Nat.le_of_ble_eq_true rfl) dL_trains_385 ⟨Nat.le_of_ble_eq_true rfl, Nat.le_of_ble_eq_true rfl⟩ (fun _ _ => ?_)
    refine z_aload_n C dL_trains_388 0 rfl ?_
    refine z_callV C (mX5_trainCount l D κ Sa g ra (Sf 0) h9 a9 b9 p9 o9 σ M  hr hv) gL_trains_X5_trainCount rfl rfl rfl hdX5_trainCount ⟨(Nat.le_of_ble_eq_true rfl), (Nat.le_of_ble_eq_true rfl)⟩ 13 rfl rfl (SW κ Sf f) (fun _ => SW κ Sf f ++ (SW κ Sa g ++ (RC ra (Sa 0) (Sf 0) h9 a9 b9 p9 o9))) (List.perm_append_comm) (fun _ => List.perm_append_comm) rfl (Nat.le_of_ble_eq_true rfl) dL_trains_389 ⟨Nat.le_of_ble_eq_true rfl, Nat.le_of_ble_eq_true rfl⟩ (fun _ _ => ?_)
    refine zn_imul C dL_trains_392 ?_
    refine z_istore C [(6, .int (nI ((σ 0) * (σ 2)))), (0, .ref (ra)), (1, .int (nI (sumL (fun i => σ (65 + 5 * i + 0)) (σ 2)))), (2, .int (nI (sumL (fun i => σ (65 + 5 * i + 4)) (σ 2)))), (3, .int (nI (sumL (fun i => sumL (fun b => if 0 < σ (90 + 10 * i + b) then 1 else 0) (σ 1)) (σ 2)))), (4, .int (nI (σ 1))), (5, .int (nI 1))] dL_trains_393 (by decide) rfl ?_
    refine z_iload C dL_trains_395 6 rfl ?_
    refine z_if_eq C 443 dL_trains_397 (by decide) (fun q => absurd q (by decide)) (fun _ => ?_)
    refine z_aload_n C dL_trains_400 1 rfl ?_
    refine z_callV C (mX5_totalWagons l D κ Sa g ra (Sf 0) h9 a9 b9 p9 o9 σ M  hr hv) gL_trains_X5_totalWagons rfl rfl rfl hdX5_totalWagons ⟨(Nat.le_of_ble_eq_true rfl), (Nat.le_of_ble_eq_true rfl)⟩ 13 rfl rfl (SW κ Sf f) (fun _ => SW κ Sf f ++ (SW κ Sa g ++ (RC ra (Sa 0) (Sf 0) h9 a9 b9 p9 o9))) (List.perm_append_comm) (fun _ => List.perm_append_comm) rfl (Nat.le_of_ble_eq_true rfl) dL_trains_401 ⟨Nat.le_of_ble_eq_true rfl, Nat.le_of_ble_eq_true rfl⟩ (fun _ _ => ?_)
    refine z_iload_n C dL_trains_404 2 rfl ?_
    refine z_icmp_ne C 443 dL_trains_405 (by decide) (fun q => absurd (rfl) q) (fun _ => ?_)
    refine z_aload_n C dL_trains_408 1 rfl ?_
    refine z_callV C (mX5_differentPassages l D κ Sa g ra (Sf 0) h9 a9 b9 p9 o9 σ M  hr hv) gL_trains_X5_differentPassages rfl rfl rfl hdX5_differentPassages ⟨(Nat.le_of_ble_eq_true rfl), (Nat.le_of_ble_eq_true rfl)⟩ 13 rfl rfl (SW κ Sf f) (fun _ => SW κ Sf f ++ (SW κ Sa g ++ (RC ra (Sa 0) (Sf 0) h9 a9 b9 p9 o9))) (List.perm_append_comm) (fun _ => List.perm_append_comm) rfl (Nat.le_of_ble_eq_true rfl) dL_trains_409 ⟨Nat.le_of_ble_eq_true rfl, Nat.le_of_ble_eq_true rfl⟩ (fun _ _ => ?_)
    refine z_iload_n C dL_trains_412 4 rfl ?_
    refine z_icmp_ne C 443 dL_trains_413 (by decide) (fun q => absurd (rfl) q) (fun _ => ?_)
    refine z_aload_n C dL_trains_416 1 rfl ?_
    refine z_callV C (mX5_waitShare l D κ Sa g ra (Sf 0) h9 a9 b9 p9 o9 σ M  hr hv (by omega)) gL_trains_X5_waitShare rfl rfl rfl hdX5_waitShare ⟨(Nat.le_of_ble_eq_true rfl), (Nat.le_of_ble_eq_true rfl)⟩ 13 rfl rfl (SW κ Sf f) (fun _ => SW κ Sf f ++ (SW κ Sa g ++ (RC ra (Sa 0) (Sf 0) h9 a9 b9 p9 o9))) (List.perm_append_comm) (fun _ => List.perm_append_comm) rfl (Nat.le_of_ble_eq_true rfl) dL_trains_417 ⟨Nat.le_of_ble_eq_true rfl, Nat.le_of_ble_eq_true rfl⟩ (fun _ _ => ?_)
    refine z_iload C dL_trains_420 0 rfl ?_
    refine zn_if_ne C 429 dL_trains_422 (by decide) (by omega) (fun h3 => ?_) (fun h4 => ?_)
    · refine z_iload_n C dL_trains_429 3 rfl ?_
      refine z_i2f C dL_trains_430 ?_
      refine z_iload C dL_trains_431 0 rfl ?_
      refine z_i2f C dL_trains_433 ?_
      refine z_fdiv C dL_trains_434 (nv32 (fdiv_nn (by omega) (by omega))) ?_
      refine z_fcmp C dL_trains_435 ?_
      rw [show FP.fdiv (FP.i2f (nI (sumL (fun i => σ (65 + 5 * i + 4)) (σ 2)))) (FP.i2f (nI ((σ 0) * (σ 2)))) = wsF σ from by unfold wsF; rw [if_neg (by omega)], fcmp_self (wsF_nn σ (by omega))]
      refine z_if_ne C 443 dL_trains_436 (by decide) (fun q => absurd rfl q) (fun _ => ?_)
      refine z_iconst (v := nI 1) C dL_trains_439 (by decide) ?_
      refine z_goto (tgt := 444) C dL_trains_440 (by decide) ?_
      exact z_zret C hr9 hk (by decide) (f) (rfl) (trivial) (List.Perm.refl _) dL_trains_444 (Nat.le_refl _) (Nat.le_refl _)
    · refine z_fconst0 C dL_trains_425 ?_
      refine z_goto (tgt := 435) C dL_trains_426 (by decide) ?_
      refine z_fcmp C dL_trains_435 ?_
      rw [show FP.fconst0 = wsF σ from by unfold wsF; rw [if_pos (by omega)], fcmp_self (wsF_nn σ (by omega))]
      refine z_if_ne C 443 dL_trains_436 (by decide) (fun q => absurd rfl q) (fun _ => ?_)
      refine z_iconst (v := nI 1) C dL_trains_439 (by decide) ?_
      refine z_goto (tgt := 444) C dL_trains_440 (by decide) ?_
      exact z_zret C hr9 hk (by decide) (f) (rfl) (trivial) (List.Perm.refl _) dL_trains_444 (Nat.le_refl _) (Nat.le_refl _)
  · refine z_iload C dL_trains_27 5 rfl ?_
    refine z_if_eq C 384 dL_trains_29 (by decide) (fun q => absurd q (by decide)) (fun _ => ?_)
    have hb9 := hv.trn (t := k) (by omega)
    have hsp := spd_pos hv.2.1 (t := k) (by omega)
    have hlb := hv.blk (c := σ (65 + 5 * k + 2)) (by omega)
    have hb4 := hv.bd (65 + 5 * k + 4) (by omega) (by omega)
    refine z_aload_n C dL_trains_32 0 rfl ?_
    refine z_iload C dL_trains_33 6 rfl ?_
    refine z_callV C (mX5_blockOf_ok l D κ Sa g ra (Sf 0) h9 a9 b9 p9 o9 σ M k hr hv (by omega)) gL_trains_X5_blockOf rfl rfl rfl hdX5_blockOf ⟨(Nat.le_of_ble_eq_true rfl), (Nat.le_of_ble_eq_true rfl)⟩ 13 rfl rfl (SW κ Sf f) (fun _ => SW κ Sf f ++ (SW κ Sa g ++ (RC ra (Sa 0) (Sf 0) h9 a9 b9 p9 o9))) (List.perm_append_comm) (fun _ => List.perm_append_comm) rfl (Nat.le_of_ble_eq_true rfl) dL_trains_35 ⟨Nat.le_of_ble_eq_true rfl, Nat.le_of_ble_eq_true rfl⟩ (fun _ _ => ?_)
    refine z_istore C [(7, .int (nI (σ (65 + 5 * k + 2)))), (0, .ref (ra)), (1, .int (nI (sumL (fun i => σ (65 + 5 * i + 0)) k))), (2, .int (nI (sumL (fun i => σ (65 + 5 * i + 4)) k))), (3, .int (nI (sumL (fun i => sumL (fun b => if 0 < σ (90 + 10 * i + b) then 1 else 0) (σ 1)) k))), (4, .int (nI (σ 1))), (5, .int (nI 1)), (6, .int (nI k))] dL_trains_38 (by decide) rfl ?_
    have ha9 := aft_lt (σ := σ) (b := σ (65 + 5 * k + 2)) (by omega)
    refine z_cut (α := Unit) (fun _ => True) (fun _ => SW κ Sf f ++ (SW κ Sa g ++ (RC ra (Sa 0) (Sf 0) h9 a9 b9 p9 o9))) (fun _ => [(7, .int (nI (σ (65 + 5 * k + 2)))), (0, .ref (ra)), (1, .int (nI (sumL (fun i => σ (65 + 5 * i + 0)) k))), (2, .int (nI (sumL (fun i => σ (65 + 5 * i + 4)) k))), (3, .int (nI (sumL (fun i => sumL (fun b => if 0 < σ (90 + 10 * i + b) then 1 else 0) (σ 1)) k))), (4, .int (nI (σ 1))), (5, .int (nI 1)), (6, .int (nI k))]) (fun _ => [.int (nI (aft σ (σ (65 + 5 * k + 2))))]) 57 (fun _ _ => ?_) (fun cut57 => ?_)
    · refine z_istore C [(8, .int (nI (aft σ (σ (65 + 5 * k + 2))))), (7, .int (nI (σ (65 + 5 * k + 2)))), (0, .ref (ra)), (1, .int (nI (sumL (fun i => σ (65 + 5 * i + 0)) k))), (2, .int (nI (sumL (fun i => σ (65 + 5 * i + 4)) k))), (3, .int (nI (sumL (fun i => sumL (fun b => if 0 < σ (90 + 10 * i + b) then 1 else 0) (σ 1)) k))), (4, .int (nI (σ 1))), (5, .int (nI 1)), (6, .int (nI k))] dL_trains_57 (by decide) rfl ?_
      refine z_aload_n C dL_trains_59 2 rfl ?_
      refine z_iload C dL_trains_60 8 rfl ?_
      refine z_callV C (mX5_topSpeedOf_ok l D κ Sa g ra (Sf 0) h9 a9 b9 p9 o9 σ M k hr hv (by omega)) gL_trains_X5_topSpeedOf rfl rfl rfl hdX5_topSpeedOf ⟨(Nat.le_of_ble_eq_true rfl), (Nat.le_of_ble_eq_true rfl)⟩ 13 rfl rfl (SW κ Sf f) (fun _ => SW κ Sf f ++ (SW κ Sa g ++ (RC ra (Sa 0) (Sf 0) h9 a9 b9 p9 o9))) (List.perm_append_comm) (fun _ => List.perm_append_comm) rfl (Nat.le_of_ble_eq_true rfl) dL_trains_62 ⟨Nat.le_of_ble_eq_true rfl, Nat.le_of_ble_eq_true rfl⟩ (fun _ _ => ?_)
      refine z_aload_n C dL_trains_65 2 rfl ?_
      refine z_iload C dL_trains_66 1 rfl ?_
      refine z_callV C (mX5_limitOf_ok l D κ Sa g ra (Sf 0) h9 a9 b9 p9 o9 σ M (σ (65 + 5 * k + 2)) hr hv (by omega)) gL_trains_X5_limitOf rfl rfl rfl hdX5_limitOf ⟨(Nat.le_of_ble_eq_true rfl), (Nat.le_of_ble_eq_true rfl)⟩ 13 rfl rfl (SW κ Sf f) (fun _ => SW κ Sf f ++ (SW κ Sa g ++ (RC ra (Sa 0) (Sf 0) h9 a9 b9 p9 o9))) (List.perm_append_comm) (fun _ => List.perm_append_comm) rfl (Nat.le_of_ble_eq_true rfl) dL_trains_68 ⟨Nat.le_of_ble_eq_true rfl, Nat.le_of_ble_eq_true rfl⟩ (fun _ _ => ?_)
      refine zn_min C (show Cond.methodLink RL 186 Lib.Math.min.name ∈ wsL_trains from by decide +kernel) (by decide +kernel) (by decide +kernel) (by decide +kernel) (by omega) (by omega) ⟨(Nat.le_of_ble_eq_true rfl), (Nat.le_of_ble_eq_true rfl)⟩ (Nat.le_of_ble_eq_true rfl) dL_trains_71 ⟨Nat.le_of_ble_eq_true rfl, Nat.le_of_ble_eq_true rfl⟩ ?_
      rw [show (if σ (5 + 6 * (σ (65 + 5 * k + 2)) + 2) < σ (65 + 5 * k + 1) then σ (5 + 6 * (σ (65 + 5 * k + 2)) + 2) else σ (65 + 5 * k + 1)) = spd σ k from by simp only [spd]; split <;> split <;> omega]
      refine z_istore C [(9, .int (nI (spd σ k))), (8, .int (nI (aft σ (σ (65 + 5 * k + 2))))), (7, .int (nI (σ (65 + 5 * k + 2)))), (0, .ref (ra)), (1, .int (nI (sumL (fun i => σ (65 + 5 * i + 0)) k))), (2, .int (nI (sumL (fun i => σ (65 + 5 * i + 4)) k))), (3, .int (nI (sumL (fun i => sumL (fun b => if 0 < σ (90 + 10 * i + b) then 1 else 0) (σ 1)) k))), (4, .int (nI (σ 1))), (5, .int (nI 1)), (6, .int (nI k))] dL_trains_74 (by decide) rfl ?_
      refine z_aload_n C dL_trains_76 3 rfl ?_
      refine z_iload C dL_trains_77 2 rfl ?_
      refine z_callV C (mX5_lengthOf_ok l D κ Sa g ra (Sf 0) h9 a9 b9 p9 o9 σ M (σ (65 + 5 * k + 2)) hr hv (by omega)) gL_trains_X5_lengthOf rfl rfl rfl hdX5_lengthOf ⟨(Nat.le_of_ble_eq_true rfl), (Nat.le_of_ble_eq_true rfl)⟩ 13 rfl rfl (SW κ Sf f) (fun _ => SW κ Sf f ++ (SW κ Sa g ++ (RC ra (Sa 0) (Sf 0) h9 a9 b9 p9 o9))) (List.perm_append_comm) (fun _ => List.perm_append_comm) rfl (Nat.le_of_ble_eq_true rfl) dL_trains_79 ⟨Nat.le_of_ble_eq_true rfl, Nat.le_of_ble_eq_true rfl⟩ (fun _ _ => ?_)
      refine z_aload_n C dL_trains_82 3 rfl ?_
      refine z_iload C dL_trains_83 9 rfl ?_
      refine z_callV C (mX5_positionOf_ok l D κ Sa g ra (Sf 0) h9 a9 b9 p9 o9 σ M k hr hv (by omega)) gL_trains_X5_positionOf rfl rfl rfl hdX5_positionOf ⟨(Nat.le_of_ble_eq_true rfl), (Nat.le_of_ble_eq_true rfl)⟩ 13 rfl rfl (SW κ Sf f) (fun _ => SW κ Sf f ++ (SW κ Sa g ++ (RC ra (Sa 0) (Sf 0) h9 a9 b9 p9 o9))) (List.perm_append_comm) (fun _ => List.perm_append_comm) rfl (Nat.le_of_ble_eq_true rfl) dL_trains_85 ⟨Nat.le_of_ble_eq_true rfl, Nat.le_of_ble_eq_true rfl⟩ (fun _ _ => ?_)
      refine zn_isub C dL_trains_88 (by omega) ?_
      refine z_istore C [(10, .int (nI ((σ (5 + 6 * (σ (65 + 5 * k + 2)) + 0)) - (σ (65 + 5 * k + 3))))), (9, .int (nI (spd σ k))), (8, .int (nI (aft σ (σ (65 + 5 * k + 2))))), (7, .int (nI (σ (65 + 5 * k + 2)))), (0, .ref (ra)), (1, .int (nI (sumL (fun i => σ (65 + 5 * i + 0)) k))), (2, .int (nI (sumL (fun i => σ (65 + 5 * i + 4)) k))), (3, .int (nI (sumL (fun i => sumL (fun b => if 0 < σ (90 + 10 * i + b) then 1 else 0) (σ 1)) k))), (4, .int (nI (σ 1))), (5, .int (nI 1)), (6, .int (nI k))] dL_trains_89 (by decide) rfl ?_
      refine z_iconst (v := nI 0) C dL_trains_91 (by decide) ?_
      refine z_istore C [(11, .int (nI 0)), (10, .int (nI ((σ (5 + 6 * (σ (65 + 5 * k + 2)) + 0)) - (σ (65 + 5 * k + 3))))), (9, .int (nI (spd σ k))), (8, .int (nI (aft σ (σ (65 + 5 * k + 2))))), (7, .int (nI (σ (65 + 5 * k + 2)))), (0, .ref (ra)), (1, .int (nI (sumL (fun i => σ (65 + 5 * i + 0)) k))), (2, .int (nI (sumL (fun i => σ (65 + 5 * i + 4)) k))), (3, .int (nI (sumL (fun i => sumL (fun b => if 0 < σ (90 + 10 * i + b) then 1 else 0) (σ 1)) k))), (4, .int (nI (σ 1))), (5, .int (nI 1)), (6, .int (nI k))] dL_trains_92 (by decide) rfl ?_
      refine z_iconst (v := (-1)) C dL_trains_94 (by decide) ?_
      refine z_istore C [(12, .int ((-1 : Int32))), (11, .int (nI 0)), (10, .int (nI ((σ (5 + 6 * (σ (65 + 5 * k + 2)) + 0)) - (σ (65 + 5 * k + 3))))), (9, .int (nI (spd σ k))), (8, .int (nI (aft σ (σ (65 + 5 * k + 2))))), (7, .int (nI (σ (65 + 5 * k + 2)))), (0, .ref (ra)), (1, .int (nI (sumL (fun i => σ (65 + 5 * i + 0)) k))), (2, .int (nI (sumL (fun i => σ (65 + 5 * i + 4)) k))), (3, .int (nI (sumL (fun i => sumL (fun b => if 0 < σ (90 + 10 * i + b) then 1 else 0) (σ 1)) k))), (4, .int (nI (σ 1))), (5, .int (nI 1)), (6, .int (nI k))] dL_trains_95 (by decide) rfl ?_
      refine z_iconst (v := nI 1) C dL_trains_97 (by decide) ?_
      refine z_istore C [(13, .int (nI 1)), (12, .int ((-1 : Int32))), (11, .int (nI 0)), (10, .int (nI ((σ (5 + 6 * (σ (65 + 5 * k + 2)) + 0)) - (σ (65 + 5 * k + 3))))), (9, .int (nI (spd σ k))), (8, .int (nI (aft σ (σ (65 + 5 * k + 2))))), (7, .int (nI (σ (65 + 5 * k + 2)))), (0, .ref (ra)), (1, .int (nI (sumL (fun i => σ (65 + 5 * i + 0)) k))), (2, .int (nI (sumL (fun i => σ (65 + 5 * i + 4)) k))), (3, .int (nI (sumL (fun i => sumL (fun b => if 0 < σ (90 + 10 * i + b) then 1 else 0) (σ 1)) k))), (4, .int (nI (σ 1))), (5, .int (nI 1)), (6, .int (nI k))] dL_trains_98 (by decide) rfl ?_
      refine z_lv [0, 1, 2, 3, 4, 5, 6, 7, 8, 9, 10, 11, 12, 13] rfl ?_
      refine z_loop (σ := Nat) (fun s => SW κ Sf f ++ (SW κ Sa g ++ (RC ra (Sa 0) (Sf 0) h9 a9 b9 p9 o9))) (fun s => [(13, .int (nI (s + 1))), (12, .int (tI (ahL σ (σ (65 + 5 * k + 2)) s))), (11, .int (nI (clL σ (σ (65 + 5 * k + 2)) s))), (10, .int (nI ((σ (5 + 6 * (σ (65 + 5 * k + 2)) + 0)) - (σ (65 + 5 * k + 3))))), (9, .int (nI (spd σ k))), (8, .int (nI (aft σ (σ (65 + 5 * k + 2))))), (7, .int (nI (σ (65 + 5 * k + 2)))), (0, .ref (ra)), (1, .int (nI (sumL (fun i => σ (65 + 5 * i + 0)) k))), (2, .int (nI (sumL (fun i => σ (65 + 5 * i + 4)) k))), (3, .int (nI (sumL (fun i => sumL (fun b => if 0 < σ (90 + 10 * i + b) then 1 else 0) (σ 1)) k))), (4, .int (nI (σ 1))), (5, .int (nI 1)), (6, .int (nI k))]) (fun s => s + 1 ≤ σ 1) (fun s => σ 1 - s) (0) ((show 0 + 1 ≤ σ 1 by omega)) rfl rfl ?_
      rintro s hI100 ih100
      have hah9 := ahL_le σ (σ (65 + 5 * k + 2)) s
      have hcl9 := clL_le σ (σ (65 + 5 * k + 2)) s
      have hm9 := Nat.mod_lt (σ (65 + 5 * k + 2) + (s + 1)) (show 0 < σ 1 by omega)
      refine z_iload C dL_trains_100 0 rfl ?_
      refine z_iload C dL_trains_102 11 rfl ?_
      refine zn_icmp_ge C 169 dL_trains_104 (by decide) (by omega) (by omega) (fun h5 => ?_) (fun h6 => ?_)
      · obtain rfl : s = σ 1 - 1 := by omega
        refine z_iconst (v := nI 0) C dL_trains_169 (by decide) ?_
        refine z_istore C [(13, .int (nI 0)), (12, .int (tI (ahL σ (σ (65 + 5 * k + 2)) (σ 1 - 1)))), (11, .int (nI (clL σ (σ (65 + 5 * k + 2)) (σ 1 - 1)))), (10, .int (nI ((σ (5 + 6 * (σ (65 + 5 * k + 2)) + 0)) - (σ (65 + 5 * k + 3))))), (9, .int (nI (spd σ k))), (8, .int (nI (aft σ (σ (65 + 5 * k + 2))))), (7, .int (nI (σ (65 + 5 * k + 2)))), (0, .ref (ra)), (1, .int (nI (sumL (fun i => σ (65 + 5 * i + 0)) k))), (2, .int (nI (sumL (fun i => σ (65 + 5 * i + 4)) k))), (3, .int (nI (sumL (fun i => sumL (fun b => if 0 < σ (90 + 10 * i + b) then 1 else 0) (σ 1)) k))), (4, .int (nI (σ 1))), (5, .int (nI 1)), (6, .int (nI k))] dL_trains_170 (by decide) rfl ?_
        refine z_lv [0, 1, 2, 3, 4, 5, 6, 7, 8, 9, 10, 11, 12, 13] rfl ?_
        refine z_loop (σ := Nat) (fun j => SW κ Sf f ++ (SW κ Sa g ++ (RC ra (Sa 0) (Sf 0) h9 a9 b9 p9 o9))) (fun j => [(13, .int (nI j)), (12, .int (tI (ahL σ (σ (65 + 5 * k + 2)) (σ 1 - 1)))), (11, .int (nI (clL σ (σ (65 + 5 * k + 2)) (σ 1 - 1)))), (10, .int (nI ((σ (5 + 6 * (σ (65 + 5 * k + 2)) + 0)) - (σ (65 + 5 * k + 3))))), (9, .int (nI (spd σ k))), (8, .int (nI (aft σ (σ (65 + 5 * k + 2))))), (7, .int (nI (σ (65 + 5 * k + 2)))), (0, .ref (ra)), (1, .int (nI (sumL (fun i => σ (65 + 5 * i + 0)) k))), (2, .int (nI (sumL (fun i => σ (65 + 5 * i + 4)) k))), (3, .int (nI (sumL (fun i => sumL (fun b => if 0 < σ (90 + 10 * i + b) then 1 else 0) (σ 1)) k + sumL (fun b => if 0 < σ (90 + 10 * k + b) then 1 else 0) j))), (4, .int (nI (σ 1))), (5, .int (nI 1)), (6, .int (nI k))]) (fun j => j ≤ σ 1) (fun j => σ 1 - j) (0) (Nat.zero_le _) rfl rfl ?_
        rintro j hI172 ih172
        have hp9 := hv.bd (90 + 10 * k + j) (by omega)
        refine z_iload C dL_trains_172 0 rfl ?_
        refine z_iload C dL_trains_174 11 rfl ?_
        refine zn_icmp_ge C 204 dL_trains_176 (by decide) (by omega) (by omega) (fun h7 => ?_) (fun h8 => ?_)
        · obtain rfl : j = σ 1 := by omega
          refine z_iload_n C dL_trains_204 8 rfl ?_
          refine z_aload_n C dL_trains_205 7 rfl ?_
          refine z_iload C dL_trains_206 13 rfl ?_
          refine z_callV C (mX5_wagonsOf_ok l D κ Sa g ra (Sf 0) h9 a9 b9 p9 o9 σ M k hr hv (by omega)) gL_trains_X5_wagonsOf rfl rfl rfl hdX5_wagonsOf ⟨(Nat.le_of_ble_eq_true rfl), (Nat.le_of_ble_eq_true rfl)⟩ 13 rfl rfl (SW κ Sf f) (fun _ => SW κ Sf f ++ (SW κ Sa g ++ (RC ra (Sa 0) (Sf 0) h9 a9 b9 p9 o9))) (List.perm_append_comm) (fun _ => List.perm_append_comm) rfl (Nat.le_of_ble_eq_true rfl) dL_trains_208 ⟨Nat.le_of_ble_eq_true rfl, Nat.le_of_ble_eq_true rfl⟩ (fun _ _ => ?_)
          refine zn_iadd C dL_trains_211 ?_
          refine z_istore_n C [(1, .int (nI ((sumL (fun i => σ (65 + 5 * i + 0)) k) + (σ (65 + 5 * k + 0))))), (13, .int (nI ((σ 1)))), (12, .int (tI (ahL σ (σ (65 + 5 * k + 2)) (σ 1 - 1)))), (11, .int (nI (clL σ (σ (65 + 5 * k + 2)) (σ 1 - 1)))), (10, .int (nI ((σ (5 + 6 * (σ (65 + 5 * k + 2)) + 0)) - (σ (65 + 5 * k + 3))))), (9, .int (nI (spd σ k))), (8, .int (nI (aft σ (σ (65 + 5 * k + 2))))), (7, .int (nI (σ (65 + 5 * k + 2)))), (0, .ref (ra)), (2, .int (nI (sumL (fun i => σ (65 + 5 * i + 4)) k))), (3, .int (nI (sumL (fun i => sumL (fun b => if 0 < σ (90 + 10 * i + b) then 1 else 0) (σ 1)) k + sumL (fun b => if 0 < σ (90 + 10 * k + b) then 1 else 0) (σ 1)))), (4, .int (nI (σ 1))), (5, .int (nI 1)), (6, .int (nI k))] dL_trains_212 (by decide) rfl ?_
          refine z_iload_n C dL_trains_213 9 rfl ?_
          refine z_aload_n C dL_trains_214 8 rfl ?_
          refine z_iload C dL_trains_215 13 rfl ?_
          refine z_callV C (mX5_waitsOf_ok l D κ Sa g ra (Sf 0) h9 a9 b9 p9 o9 σ M k hr hv (by omega)) gL_trains_X5_waitsOf rfl rfl rfl hdX5_waitsOf ⟨(Nat.le_of_ble_eq_true rfl), (Nat.le_of_ble_eq_true rfl)⟩ 13 rfl rfl (SW κ Sf f) (fun _ => SW κ Sf f ++ (SW κ Sa g ++ (RC ra (Sa 0) (Sf 0) h9 a9 b9 p9 o9))) (List.perm_append_comm) (fun _ => List.perm_append_comm) rfl (Nat.le_of_ble_eq_true rfl) dL_trains_217 ⟨Nat.le_of_ble_eq_true rfl, Nat.le_of_ble_eq_true rfl⟩ (fun _ _ => ?_)
          refine zn_iadd C dL_trains_220 ?_
          refine z_istore_n C [(2, .int (nI ((sumL (fun i => σ (65 + 5 * i + 4)) k) + (σ (65 + 5 * k + 4))))), (1, .int (nI ((sumL (fun i => σ (65 + 5 * i + 0)) k) + (σ (65 + 5 * k + 0))))), (13, .int (nI ((σ 1)))), (12, .int (tI (ahL σ (σ (65 + 5 * k + 2)) (σ 1 - 1)))), (11, .int (nI (clL σ (σ (65 + 5 * k + 2)) (σ 1 - 1)))), (10, .int (nI ((σ (5 + 6 * (σ (65 + 5 * k + 2)) + 0)) - (σ (65 + 5 * k + 3))))), (9, .int (nI (spd σ k))), (8, .int (nI (aft σ (σ (65 + 5 * k + 2))))), (7, .int (nI (σ (65 + 5 * k + 2)))), (0, .ref (ra)), (3, .int (nI (sumL (fun i => sumL (fun b => if 0 < σ (90 + 10 * i + b) then 1 else 0) (σ 1)) k + sumL (fun b => if 0 < σ (90 + 10 * k + b) then 1 else 0) (σ 1)))), (4, .int (nI (σ 1))), (5, .int (nI 1)), (6, .int (nI k))] dL_trains_221 (by decide) rfl ?_
          refine z_aload_n C dL_trains_222 9 rfl ?_
          refine z_iload C dL_trains_223 13 rfl ?_
          refine z_callV C (mX5_ticksToEnd_ok l D κ Sa g ra (Sf 0) h9 a9 b9 p9 o9 σ M k hr hv (by omega)) gL_trains_X5_ticksToEnd rfl rfl rfl hdX5_ticksToEnd ⟨(Nat.le_of_ble_eq_true rfl), (Nat.le_of_ble_eq_true rfl)⟩ 13 rfl rfl (SW κ Sf f) (fun _ => SW κ Sf f ++ (SW κ Sa g ++ (RC ra (Sa 0) (Sf 0) h9 a9 b9 p9 o9))) (List.perm_append_comm) (fun _ => List.perm_append_comm) rfl (Nat.le_of_ble_eq_true rfl) dL_trains_225 ⟨Nat.le_of_ble_eq_true rfl, Nat.le_of_ble_eq_true rfl⟩ (fun _ _ => ?_)
          refine z_istore C [(13, .int (nI ((σ (5 + 6 * σ (65 + 5 * k + 2) + 0) - σ (65 + 5 * k + 3) + spd σ k - 1) / spd σ k))), (2, .int (nI ((sumL (fun i => σ (65 + 5 * i + 4)) k) + (σ (65 + 5 * k + 4))))), (1, .int (nI ((sumL (fun i => σ (65 + 5 * i + 0)) k) + (σ (65 + 5 * k + 0))))), (12, .int (tI (ahL σ (σ (65 + 5 * k + 2)) (σ 1 - 1)))), (11, .int (nI (clL σ (σ (65 + 5 * k + 2)) (σ 1 - 1)))), (10, .int (nI ((σ (5 + 6 * (σ (65 + 5 * k + 2)) + 0)) - (σ (65 + 5 * k + 3))))), (9, .int (nI (spd σ k))), (8, .int (nI (aft σ (σ (65 + 5 * k + 2))))), (7, .int (nI (σ (65 + 5 * k + 2)))), (0, .ref (ra)), (3, .int (nI (sumL (fun i => sumL (fun b => if 0 < σ (90 + 10 * i + b) then 1 else 0) (σ 1)) k + sumL (fun b => if 0 < σ (90 + 10 * k + b) then 1 else 0) (σ 1)))), (4, .int (nI (σ 1))), (5, .int (nI 1)), (6, .int (nI k))] dL_trains_228 (by decide) rfl ?_
          have hty := tte_ok (way := σ (5 + 6 * σ (65 + 5 * k + 2) + 0) - σ (65 + 5 * k + 3)) hsp.1 hsp.2
          have htT : (σ (5 + 6 * σ (65 + 5 * k + 2) + 0) - σ (65 + 5 * k + 3) + spd σ k - 1) / spd σ k ≤ 24 := Nat.le_trans (Nat.div_le_self _ _) (by omega)
          have htm : (σ (5 + 6 * σ (65 + 5 * k + 2) + 0) - σ (65 + 5 * k + 3) + spd σ k - 1) / spd σ k * spd σ k ≤ 24 * 5 := Nat.mul_le_mul htT hsp.2
          have htm2 : ((σ (5 + 6 * σ (65 + 5 * k + 2) + 0) - σ (65 + 5 * k + 3) + spd σ k - 1) / spd σ k - 1) * spd σ k ≤ 24 * 5 := Nat.mul_le_mul (by omega) hsp.2
          refine z_aload_n C dL_trains_230 9 rfl ?_
          refine z_iload C dL_trains_231 8 rfl ?_
          refine z_callV C (mX5_trainIn_ok l D κ Sa g ra (Sf 0) h9 a9 b9 p9 o9 σ M (σ (65 + 5 * k + 2)) hr hv (by omega)) gL_trains_X5_trainIn rfl rfl rfl hdX5_trainIn ⟨(Nat.le_of_ble_eq_true rfl), (Nat.le_of_ble_eq_true rfl)⟩ 13 rfl rfl (SW κ Sf f) (fun _ => SW κ Sf f ++ (SW κ Sa g ++ (RC ra (Sa 0) (Sf 0) h9 a9 b9 p9 o9))) (List.perm_append_comm) (fun _ => List.perm_append_comm) rfl (Nat.le_of_ble_eq_true rfl) dL_trains_233 ⟨Nat.le_of_ble_eq_true rfl, Nat.le_of_ble_eq_true rfl⟩ (fun _ _ => ?_)
          refine z_iload C dL_trains_236 13 rfl ?_
          refine z_icmp_ne C 375 dL_trains_238 (by decide) (fun q => absurd (show tI (trAt σ (σ (65 + 5 * k + 2))) = nI k from by rw [(trAt_iff hv.2.1 (by omega)).mpr rfl]; rfl) q) (fun _ => ?_)
          refine z_aload_n C dL_trains_241 9 rfl ?_
          refine z_iload C dL_trains_242 13 rfl ?_
          refine z_callV C (mX5_speedOf_ok l D κ Sa g ra (Sf 0) h9 a9 b9 p9 o9 σ M k hr hv (by omega)) gL_trains_X5_speedOf rfl rfl rfl hdX5_speedOf ⟨(Nat.le_of_ble_eq_true rfl), (Nat.le_of_ble_eq_true rfl)⟩ 13 rfl rfl (SW κ Sf f) (fun _ => SW κ Sf f ++ (SW κ Sa g ++ (RC ra (Sa 0) (Sf 0) h9 a9 b9 p9 o9))) (List.perm_append_comm) (fun _ => List.perm_append_comm) rfl (Nat.le_of_ble_eq_true rfl) dL_trains_244 ⟨Nat.le_of_ble_eq_true rfl, Nat.le_of_ble_eq_true rfl⟩ (fun _ _ => ?_)
          refine z_iload C dL_trains_247 6 rfl ?_
          refine z_icmp_ne C 375 dL_trains_249 (by decide) (fun q => absurd (rfl) q) (fun _ => ?_)
          refine z_iload C dL_trains_252 5 rfl ?_
          refine zn_if_lt C 375 dL_trains_254 (by decide) (by omega) ?_
          refine z_iload C dL_trains_257 0 rfl ?_
          refine z_iload C dL_trains_259 6 rfl ?_
          refine zn_imul C dL_trains_261 ?_
          refine z_iload C dL_trains_262 5 rfl ?_
          refine zn_icmp_lt C 375 dL_trains_264 (by decide) (by omega) (by omega) (fun _ => by exfalso; omega) (fun _ => ?_)
          refine z_cut (α := Unit) (fun _ => True) (fun _ => SW κ Sf f ++ (SW κ Sa g ++ (RC ra (Sa 0) (Sf 0) h9 a9 b9 p9 o9))) (fun _ => [(2, .int (nI ((sumL (fun i => σ (65 + 5 * i + 4)) k) + (σ (65 + 5 * k + 4))))), (1, .int (nI ((sumL (fun i => σ (65 + 5 * i + 0)) k) + (σ (65 + 5 * k + 0))))), (12, .int (tI (ahL σ (σ (65 + 5 * k + 2)) (σ 1 - 1)))), (11, .int (nI (clL σ (σ (65 + 5 * k + 2)) (σ 1 - 1)))), (8, .int (nI (aft σ (σ (65 + 5 * k + 2))))), (7, .int (nI (σ (65 + 5 * k + 2)))), (0, .ref (ra)), (3, .int (nI (sumL (fun i => sumL (fun b => if 0 < σ (90 + 10 * i + b) then 1 else 0) (σ 1)) k + sumL (fun b => if 0 < σ (90 + 10 * k + b) then 1 else 0) (σ 1)))), (4, .int (nI (σ 1))), (5, .int (nI 1)), (6, .int (nI k))]) (fun _ => []) 284 (fun _ _ => ?_) (fun cut284 => ?_)
          · refine z_aload_n C dL_trains_284 6 rfl ?_
            refine z_iload C dL_trains_285 10 rfl ?_
            refine z_callV C (mX5_trainAhead_ok l D κ Sa g ra (Sf 0) h9 a9 b9 p9 o9 σ M k hr hv (by omega)) gL_trains_X5_trainAhead rfl rfl rfl hdX5_trainAhead ⟨(Nat.le_of_ble_eq_true rfl), (Nat.le_of_ble_eq_true rfl)⟩ 13 rfl rfl (SW κ Sf f) (fun _ => SW κ Sf f ++ (SW κ Sa g ++ (RC ra (Sa 0) (Sf 0) h9 a9 b9 p9 o9))) (List.perm_append_comm) (fun _ => List.perm_append_comm) rfl (Nat.le_of_ble_eq_true rfl) dL_trains_287 ⟨Nat.le_of_ble_eq_true rfl, Nat.le_of_ble_eq_true rfl⟩ (fun _ _ => ?_)
            refine z_iload C dL_trains_290 2 rfl ?_
            refine z_icmp_ne C 375 dL_trains_292 (by decide) (fun q => absurd (congrArg tI (ahT_ok hv.2.1 (by omega)).symm) q) (fun _ => ?_)
            refine z_aload_n C dL_trains_295 6 rfl ?_
            refine z_iload C dL_trains_296 10 rfl ?_
            refine z_callV C (mX5_clearBlocksAhead_ok l D κ Sa g ra (Sf 0) h9 a9 b9 p9 o9 σ M k hr hv (by omega)) gL_trains_X5_clearBlocksAhead rfl rfl rfl hdX5_clearBlocksAhead ⟨(Nat.le_of_ble_eq_true rfl), (Nat.le_of_ble_eq_true rfl)⟩ 13 rfl rfl (SW κ Sf f) (fun _ => SW κ Sf f ++ (SW κ Sa g ++ (RC ra (Sa 0) (Sf 0) h9 a9 b9 p9 o9))) (List.perm_append_comm) (fun _ => List.perm_append_comm) rfl (Nat.le_of_ble_eq_true rfl) dL_trains_298 ⟨Nat.le_of_ble_eq_true rfl, Nat.le_of_ble_eq_true rfl⟩ (fun _ _ => ?_)
            refine z_iload C dL_trains_301 3 rfl ?_
            refine z_icmp_ne C 375 dL_trains_303 (by decide) (fun q => absurd (congrArg nI (cbA_ok (by omega) (by omega)).symm) q) (fun _ => ?_)
            refine z_aload_n C dL_trains_306 6 rfl ?_
            refine z_iload C dL_trains_307 10 rfl ?_
            refine z_callV C (mX5_canEnter_ok l D κ Sa g ra (Sf 0) h9 a9 b9 p9 o9 σ M k hr hv (by omega)) gL_trains_X5_canEnter rfl rfl rfl hdX5_canEnter ⟨(Nat.le_of_ble_eq_true rfl), (Nat.le_of_ble_eq_true rfl)⟩ 13 rfl rfl (SW κ Sf f) (fun _ => SW κ Sf f ++ (SW κ Sa g ++ (RC ra (Sa 0) (Sf 0) h9 a9 b9 p9 o9))) (List.perm_append_comm) (fun _ => List.perm_append_comm) rfl (Nat.le_of_ble_eq_true rfl) dL_trains_309 ⟨Nat.le_of_ble_eq_true rfl, Nat.le_of_ble_eq_true rfl⟩ (fun _ _ => ?_)
            refine z_cut (α := Unit) (fun _ => True) (fun _ => SW κ Sf f ++ (SW κ Sa g ++ (RC ra (Sa 0) (Sf 0) h9 a9 b9 p9 o9))) (fun _ => [(2, .int (nI ((sumL (fun i => σ (65 + 5 * i + 4)) k) + (σ (65 + 5 * k + 4))))), (1, .int (nI ((sumL (fun i => σ (65 + 5 * i + 0)) k) + (σ (65 + 5 * k + 0))))), (12, .int (tI (ahL σ (σ (65 + 5 * k + 2)) (σ 1 - 1)))), (11, .int (nI (clL σ (σ (65 + 5 * k + 2)) (σ 1 - 1)))), (8, .int (nI (aft σ (σ (65 + 5 * k + 2))))), (7, .int (nI (σ (65 + 5 * k + 2)))), (0, .ref (ra)), (3, .int (nI (sumL (fun i => sumL (fun b => if 0 < σ (90 + 10 * i + b) then 1 else 0) (σ 1)) k + sumL (fun b => if 0 < σ (90 + 10 * k + b) then 1 else 0) (σ 1)))), (4, .int (nI (σ 1))), (5, .int (nI 1)), (6, .int (nI k))]) (fun _ => [.int (nI (mayE σ k).toNat), .int (nI (mayE σ k).toNat)]) 335 (fun _ _ => ?_) (fun cut335 => ?_)
            · refine z_icmp_ne C 375 dL_trains_335 (by decide) (fun q => absurd (rfl) q) (fun _ => ?_)
              refine z_aload_n C dL_trains_338 6 rfl ?_
              refine z_iload C dL_trains_339 10 rfl ?_
              refine z_iconst (v := nI 0) C dL_trains_341 (by decide) ?_
              refine z_callV C (mX5_blockAfter_ok l D κ Sf Sa f g ra h9 a9 b9 p9 o9 σ M k 0 hr hv (by omega) (by omega) (by omega)) gL_trains_X5_blockAfter rfl rfl rfl hdX5_blockAfter ⟨(Nat.le_of_ble_eq_true rfl), (Nat.le_of_ble_eq_true rfl)⟩ 26 rfl rfl ([]) (fun u => SW κ Sf u ++ (SW κ Sa g ++ (RC ra (Sa 0) (Sf 0) h9 a9 b9 p9 o9))) (zp_self) (fun _ => zp_self') rfl (Nat.le_of_ble_eq_true rfl) dL_trains_342 ⟨Nat.le_of_ble_eq_true rfl, Nat.le_of_ble_eq_true rfl⟩ (fun f1 _ => ?_)
              refine z_iload C dL_trains_345 5 rfl ?_
              refine z_icmp_ne C 375 dL_trains_347 (by decide) (fun q => absurd (rfl) q) (fun _ => ?_)
              refine z_aload_n C dL_trains_350 6 rfl ?_
              refine z_iload C dL_trains_351 10 rfl ?_
              refine z_callV C (mX5_wagonsOf_ok l D κ Sa g ra (Sf 0) h9 a9 b9 p9 o9 σ M k hr hv (by omega)) gL_trains_X5_wagonsOf rfl rfl rfl hdX5_wagonsOf ⟨(Nat.le_of_ble_eq_true rfl), (Nat.le_of_ble_eq_true rfl)⟩ 13 rfl rfl (SW κ Sf f1) (fun _ => SW κ Sf f1 ++ (SW κ Sa g ++ (RC ra (Sa 0) (Sf 0) h9 a9 b9 p9 o9))) (List.perm_append_comm) (fun _ => List.perm_append_comm) rfl (Nat.le_of_ble_eq_true rfl) dL_trains_353 ⟨Nat.le_of_ble_eq_true rfl, Nat.le_of_ble_eq_true rfl⟩ (fun _ _ => ?_)
              refine z_iconst (v := nI 1) C dL_trains_356 (by decide) ?_
              refine zn_icmp_lt C 375 dL_trains_357 (by decide) (by omega) (by omega) (fun _ => by exfalso; omega) (fun _ => ?_)
              refine z_aload_n C dL_trains_360 6 rfl ?_
              refine z_iload C dL_trains_361 10 rfl ?_
              refine z_callV C (mX5_wagonsOf_ok l D κ Sa g ra (Sf 0) h9 a9 b9 p9 o9 σ M k hr hv (by omega)) gL_trains_X5_wagonsOf rfl rfl rfl hdX5_wagonsOf ⟨(Nat.le_of_ble_eq_true rfl), (Nat.le_of_ble_eq_true rfl)⟩ 13 rfl rfl (SW κ Sf f1) (fun _ => SW κ Sf f1 ++ (SW κ Sa g ++ (RC ra (Sa 0) (Sf 0) h9 a9 b9 p9 o9))) (List.perm_append_comm) (fun _ => List.perm_append_comm) rfl (Nat.le_of_ble_eq_true rfl) dL_trains_363 ⟨Nat.le_of_ble_eq_true rfl, Nat.le_of_ble_eq_true rfl⟩ (fun _ _ => ?_)
              refine z_bipush (v := nI 12) C dL_trains_366 (by decide) ?_
              refine zn_icmp_gt C 375 dL_trains_368 (by decide) (by omega) (by omega) (fun _ => by exfalso; omega) (fun _ => ?_)
              refine z_iconst (v := nI 1) C dL_trains_371 (by decide) ?_
              refine z_goto (tgt := 376) C dL_trains_372 (by decide) ?_
              refine z_istore C [(5, .int (nI 1)), (2, .int (nI ((sumL (fun i => σ (65 + 5 * i + 4)) k) + (σ (65 + 5 * k + 4))))), (1, .int (nI ((sumL (fun i => σ (65 + 5 * i + 0)) k) + (σ (65 + 5 * k + 0))))), (12, .int (tI (ahL σ (σ (65 + 5 * k + 2)) (σ 1 - 1)))), (11, .int (nI (clL σ (σ (65 + 5 * k + 2)) (σ 1 - 1)))), (8, .int (nI (aft σ (σ (65 + 5 * k + 2))))), (7, .int (nI (σ (65 + 5 * k + 2)))), (0, .ref (ra)), (3, .int (nI (sumL (fun i => sumL (fun b => if 0 < σ (90 + 10 * i + b) then 1 else 0) (σ 1)) k + sumL (fun b => if 0 < σ (90 + 10 * k + b) then 1 else 0) (σ 1)))), (4, .int (nI (σ 1))), (6, .int (nI k))] dL_trains_376 (by decide) rfl ?_
              refine zn_iinc (n := 1) C [(6, .int (nI (k + 1))), (5, .int (nI 1)), (2, .int (nI ((sumL (fun i => σ (65 + 5 * i + 4)) k) + (σ (65 + 5 * k + 4))))), (1, .int (nI ((sumL (fun i => σ (65 + 5 * i + 0)) k) + (σ (65 + 5 * k + 0))))), (12, .int (tI (ahL σ (σ (65 + 5 * k + 2)) (σ 1 - 1)))), (11, .int (nI (clL σ (σ (65 + 5 * k + 2)) (σ 1 - 1)))), (8, .int (nI (aft σ (σ (65 + 5 * k + 2))))), (7, .int (nI (σ (65 + 5 * k + 2)))), (0, .ref (ra)), (3, .int (nI (sumL (fun i => sumL (fun b => if 0 < σ (90 + 10 * i + b) then 1 else 0) (σ 1)) k + sumL (fun b => if 0 < σ (90 + 10 * k + b) then 1 else 0) (σ 1)))), (4, .int (nI (σ 1)))] dL_trains_378 10 rfl (by decide) rfl ?_
              refine z_goto (tgt := 18) C dL_trains_381 (by decide) ?_
              refine z_lv [8, 3, 2, 9, 10, 1, 0] rfl ?_
              exact ih18 (k + 1, f1) (by show k + 1 ≤ σ 2; omega) (by show σ 2 - (k + 1) < σ 2 - k; omega)
            refine z_aload_n C dL_trains_312 6 rfl ?_
            refine z_iload C dL_trains_313 4 rfl ?_
            refine z_callV C (mX5_isClear_ok l D κ Sa g ra (Sf 0) h9 a9 b9 p9 o9 σ M (aft σ (σ (65 + 5 * k + 2))) hr hv (by omega)) gL_trains_X5_isClear rfl rfl rfl hdX5_isClear ⟨(Nat.le_of_ble_eq_true rfl), (Nat.le_of_ble_eq_true rfl)⟩ 13 rfl rfl (SW κ Sf f) (fun _ => SW κ Sf f ++ (SW κ Sa g ++ (RC ra (Sa 0) (Sf 0) h9 a9 b9 p9 o9))) (List.perm_append_comm) (fun _ => List.perm_append_comm) rfl (Nat.le_of_ble_eq_true rfl) dL_trains_315 ⟨Nat.le_of_ble_eq_true rfl, Nat.le_of_ble_eq_true rfl⟩ (fun _ _ => ?_)
            refine zb_if_eq C 334 dL_trains_318 (by decide) (fun h9 => ?_) (fun h10 => ?_)
            · refine z_iconst (v := nI 0) C dL_trains_334 (by decide) ?_
              refine z_lv [0, 1, 2, 3, 4, 5, 6, 7, 8, 9, 10] rfl ?_
              exact z_eq (cut335 () trivial) rfl (rfl) rfl (congrArg (fun x => [Value.int x, _]) (show nI 0 = nI (mayE σ k).toNat from by simp only [mayE]; rw [if_neg (of_decide_eq_false h9)]; rfl))
            · refine z_aload_n C dL_trains_321 6 rfl ?_
              refine z_iload C dL_trains_322 4 rfl ?_
              refine z_callS C (mL_occupied l D κ Sa g ra (Sf 0) h9 a9 b9 p9 o9 σ M (aft σ (σ (65 + 5 * k + 2))) hr hv (by omega)) gL_trains_L_occupied rfl rfl rfl hdL_occupied ⟨(Nat.le_of_ble_eq_true rfl), (Nat.le_of_ble_eq_true rfl)⟩ (SW κ Sf f) (fun _ => SW κ Sf f ++ (SW κ Sa g ++ (RC ra (Sa 0) (Sf 0) h9 a9 b9 p9 o9))) (List.perm_append_comm) (fun _ => List.perm_append_comm) rfl (Nat.le_of_ble_eq_true rfl) dL_trains_324 ⟨Nat.le_of_ble_eq_true rfl, Nat.le_of_ble_eq_true rfl⟩ (fun _ _ => ?_)
              refine zb_if_ne C 334 dL_trains_327 (by decide) (fun h11 => ?_) (fun h12 => ?_)
              · refine z_iconst (v := nI 0) C dL_trains_334 (by decide) ?_
                refine z_lv [0, 1, 2, 3, 4, 5, 6, 7, 8, 9, 10] rfl ?_
                exact z_eq (cut335 () trivial) rfl (rfl) rfl (congrArg (fun x => [Value.int x, _]) (show nI 0 = nI (mayE σ k).toNat from by simp only [mayE]; rw [if_pos (of_decide_eq_true h10), h11]; rfl))
              · refine z_iconst (v := nI 1) C dL_trains_330 (by decide) ?_
                refine z_goto (tgt := 335) C dL_trains_331 (by decide) ?_
                refine z_lv [0, 1, 2, 3, 4, 5, 6, 7, 8, 9, 10] rfl ?_
                exact z_eq (cut335 () trivial) rfl (rfl) rfl (congrArg (fun x => [Value.int x, _]) (show nI 1 = nI (mayE σ k).toNat from by simp only [mayE]; rw [if_pos (of_decide_eq_true h10), h12]; rfl))
          refine z_iload C dL_trains_267 0 rfl ?_
          refine zn_if_eq C 284 dL_trains_269 (by decide) (by omega) (fun h13 => ?_) (fun h14 => ?_)
          · refine z_lv [1, 2, 3, 4, 7, 8, 9, 10, 11, 12, 13] rfl ?_
            exact z_eq (cut284 () trivial) rfl (rfl) rfl (rfl)
          · refine z_iload C dL_trains_272 0 rfl ?_
            refine z_iconst (v := nI 1) C dL_trains_274 (by decide) ?_
            refine zn_isub C dL_trains_275 (by omega) ?_
            refine z_iload C dL_trains_276 6 rfl ?_
            refine zn_imul C dL_trains_278 ?_
            refine z_iload C dL_trains_279 5 rfl ?_
            refine zn_icmp_ge C 375 dL_trains_281 (by decide) (by omega) (by omega) (fun _ => by exfalso; omega) (fun _ => ?_)
            refine z_lv [1, 2, 3, 4, 7, 8, 9, 10, 11, 12, 13] rfl ?_
            exact z_eq (cut284 () trivial) rfl (rfl) rfl (rfl)
        · refine z_iload_n C dL_trains_179 10 rfl ?_
          refine z_cut (α := Unit) (fun _ => True) (fun _ => SW κ Sf f ++ (SW κ Sa g ++ (RC ra (Sa 0) (Sf 0) h9 a9 b9 p9 o9))) (fun _ => [(13, .int (nI j)), (12, .int (tI (ahL σ (σ (65 + 5 * k + 2)) (σ 1 - 1)))), (11, .int (nI (clL σ (σ (65 + 5 * k + 2)) (σ 1 - 1)))), (10, .int (nI ((σ (5 + 6 * (σ (65 + 5 * k + 2)) + 0)) - (σ (65 + 5 * k + 3))))), (9, .int (nI (spd σ k))), (8, .int (nI (aft σ (σ (65 + 5 * k + 2))))), (7, .int (nI (σ (65 + 5 * k + 2)))), (0, .ref (ra)), (1, .int (nI (sumL (fun i => σ (65 + 5 * i + 0)) k))), (2, .int (nI (sumL (fun i => σ (65 + 5 * i + 4)) k))), (3, .int (nI (sumL (fun i => sumL (fun b => if 0 < σ (90 + 10 * i + b) then 1 else 0) (σ 1)) k + sumL (fun b => if 0 < σ (90 + 10 * k + b) then 1 else 0) j))), (4, .int (nI (σ 1))), (5, .int (nI 1)), (6, .int (nI k))]) (fun _ => [.int (nI (if 0 < σ (90 + 10 * k + j) then 1 else 0)), .int (nI (sumL (fun i => sumL (fun b => if 0 < σ (90 + 10 * i + b) then 1 else 0) (σ 1)) k + sumL (fun b => if 0 < σ (90 + 10 * k + b) then 1 else 0) j))]) 196 (fun _ _ => ?_) (fun cut196 => ?_)
          · refine zn_iadd C dL_trains_196 ?_
            refine z_istore_n C [(3, .int (nI ((sumL (fun i => sumL (fun b => if 0 < σ (90 + 10 * i + b) then 1 else 0) (σ 1)) k + sumL (fun b => if 0 < σ (90 + 10 * k + b) then 1 else 0) j) + (if 0 < σ (90 + 10 * k + j) then 1 else 0)))), (13, .int (nI j)), (12, .int (tI (ahL σ (σ (65 + 5 * k + 2)) (σ 1 - 1)))), (11, .int (nI (clL σ (σ (65 + 5 * k + 2)) (σ 1 - 1)))), (10, .int (nI ((σ (5 + 6 * (σ (65 + 5 * k + 2)) + 0)) - (σ (65 + 5 * k + 3))))), (9, .int (nI (spd σ k))), (8, .int (nI (aft σ (σ (65 + 5 * k + 2))))), (7, .int (nI (σ (65 + 5 * k + 2)))), (0, .ref (ra)), (1, .int (nI (sumL (fun i => σ (65 + 5 * i + 0)) k))), (2, .int (nI (sumL (fun i => σ (65 + 5 * i + 4)) k))), (4, .int (nI (σ 1))), (5, .int (nI 1)), (6, .int (nI k))] dL_trains_197 (by decide) rfl ?_
            refine z_eq (lv' := [(3, .int (nI (sumL (fun i => sumL (fun b => if 0 < σ (90 + 10 * i + b) then 1 else 0) (σ 1)) k + sumL (fun b => if 0 < σ (90 + 10 * k + b) then 1 else 0) (j + 1)))), (13, .int (nI j)), (12, .int (tI (ahL σ (σ (65 + 5 * k + 2)) (σ 1 - 1)))), (11, .int (nI (clL σ (σ (65 + 5 * k + 2)) (σ 1 - 1)))), (10, .int (nI ((σ (5 + 6 * (σ (65 + 5 * k + 2)) + 0)) - (σ (65 + 5 * k + 3))))), (9, .int (nI (spd σ k))), (8, .int (nI (aft σ (σ (65 + 5 * k + 2))))), (7, .int (nI (σ (65 + 5 * k + 2)))), (0, .ref (ra)), (1, .int (nI (sumL (fun i => σ (65 + 5 * i + 0)) k))), (2, .int (nI (sumL (fun i => σ (65 + 5 * i + 4)) k))), (4, .int (nI (σ 1))), (5, .int (nI 1)), (6, .int (nI k))]) ?_ rfl (congrArg (fun x9 : Nat => ([(3, .int (nI x9)), (13, .int (nI j)), (12, .int (tI (ahL σ (σ (65 + 5 * k + 2)) (σ 1 - 1)))), (11, .int (nI (clL σ (σ (65 + 5 * k + 2)) (σ 1 - 1)))), (10, .int (nI ((σ (5 + 6 * (σ (65 + 5 * k + 2)) + 0)) - (σ (65 + 5 * k + 3))))), (9, .int (nI (spd σ k))), (8, .int (nI (aft σ (σ (65 + 5 * k + 2))))), (7, .int (nI (σ (65 + 5 * k + 2)))), (0, .ref (ra)), (1, .int (nI (sumL (fun i => σ (65 + 5 * i + 0)) k))), (2, .int (nI (sumL (fun i => σ (65 + 5 * i + 4)) k))), (4, .int (nI (σ 1))), (5, .int (nI 1)), (6, .int (nI k))] : List (Nat × Value))) (show (sumL (fun i => sumL (fun b => if 0 < σ (90 + 10 * i + b) then 1 else 0) (σ 1)) k + sumL (fun b => if 0 < σ (90 + 10 * k + b) then 1 else 0) j) + (if 0 < σ (90 + 10 * k + j) then 1 else 0) = sumL (fun i => sumL (fun b => if 0 < σ (90 + 10 * i + b) then 1 else 0) (σ 1)) k + sumL (fun b => if 0 < σ (90 + 10 * k + b) then 1 else 0) (j + 1) from by rw [Nat.add_assoc]; rfl)) rfl rfl
            refine zn_iinc (n := 1) C [(13, .int (nI (j + 1))), (3, .int (nI (sumL (fun i => sumL (fun b => if 0 < σ (90 + 10 * i + b) then 1 else 0) (σ 1)) k + sumL (fun b => if 0 < σ (90 + 10 * k + b) then 1 else 0) (j + 1)))), (12, .int (tI (ahL σ (σ (65 + 5 * k + 2)) (σ 1 - 1)))), (11, .int (nI (clL σ (σ (65 + 5 * k + 2)) (σ 1 - 1)))), (10, .int (nI ((σ (5 + 6 * (σ (65 + 5 * k + 2)) + 0)) - (σ (65 + 5 * k + 3))))), (9, .int (nI (spd σ k))), (8, .int (nI (aft σ (σ (65 + 5 * k + 2))))), (7, .int (nI (σ (65 + 5 * k + 2)))), (0, .ref (ra)), (1, .int (nI (sumL (fun i => σ (65 + 5 * i + 0)) k))), (2, .int (nI (sumL (fun i => σ (65 + 5 * i + 4)) k))), (4, .int (nI (σ 1))), (5, .int (nI 1)), (6, .int (nI k))] dL_trains_198 1 rfl (by decide) rfl ?_
            refine z_goto (tgt := 172) C dL_trains_201 (by decide) ?_
            refine z_lv [0, 2, 3, 4, 5, 6, 7, 8, 9, 10, 1, 11, 12, 13] rfl ?_
            exact ih172 (j + 1) (by omega) (by omega)
          refine z_aload_n C dL_trains_180 7 rfl ?_
          refine z_iload C dL_trains_181 13 rfl ?_
          refine z_iload C dL_trains_183 0 rfl ?_
          refine z_callV C (mX5_passages_ok l D κ Sa g ra (Sf 0) h9 a9 b9 p9 o9 σ M k j hr hv (by omega) (by omega)) gL_trains_X5_passages rfl rfl rfl hdX5_passages ⟨(Nat.le_of_ble_eq_true rfl), (Nat.le_of_ble_eq_true rfl)⟩ 13 rfl rfl (SW κ Sf f) (fun _ => SW κ Sf f ++ (SW κ Sa g ++ (RC ra (Sa 0) (Sf 0) h9 a9 b9 p9 o9))) (List.perm_append_comm) (fun _ => List.perm_append_comm) rfl (Nat.le_of_ble_eq_true rfl) dL_trains_185 ⟨Nat.le_of_ble_eq_true rfl, Nat.le_of_ble_eq_true rfl⟩ (fun _ _ => ?_)
          refine zn_if_le C 195 dL_trains_188 (by decide) (by omega) (fun h15 => ?_) (fun h16 => ?_)
          · refine z_iconst (v := nI 0) C dL_trains_195 (by decide) ?_
            refine z_lv [0, 1, 2, 3, 4, 5, 6, 7, 8, 9, 10, 11, 12, 13] rfl ?_
            exact z_eq (cut196 () trivial) rfl (rfl) rfl (congrArg (fun n => [Value.int (nI n), _]) (show 0 = (if 0 < σ (90 + 10 * k + j) then 1 else 0) from by rw [if_neg (by omega)]))
          · refine z_iconst (v := nI 1) C dL_trains_191 (by decide) ?_
            refine z_goto (tgt := 196) C dL_trains_192 (by decide) ?_
            refine z_lv [0, 1, 2, 3, 4, 5, 6, 7, 8, 9, 10, 11, 12, 13] rfl ?_
            exact z_eq (cut196 () trivial) rfl (rfl) rfl (congrArg (fun n => [Value.int (nI n), _]) (show 1 = (if 0 < σ (90 + 10 * k + j) then 1 else 0) from by rw [if_pos (by omega)]))
      · refine z_iload C dL_trains_107 6 rfl ?_
        refine z_iload C dL_trains_109 0 rfl ?_
        refine zn_iadd C dL_trains_111 ?_
        refine z_iload C dL_trains_112 11 rfl ?_
        refine zn_irem C dL_trains_114 (by omega) (by omega) (by omega) ?_
        refine z_istore C [(14, .int (nI (((σ (65 + 5 * k + 2)) + (s + 1)) % (σ 1)))), (13, .int (nI (s + 1))), (12, .int (tI (ahL σ (σ (65 + 5 * k + 2)) s))), (11, .int (nI (clL σ (σ (65 + 5 * k + 2)) s))), (10, .int (nI ((σ (5 + 6 * (σ (65 + 5 * k + 2)) + 0)) - (σ (65 + 5 * k + 3))))), (9, .int (nI (spd σ k))), (8, .int (nI (aft σ (σ (65 + 5 * k + 2))))), (7, .int (nI (σ (65 + 5 * k + 2)))), (0, .ref (ra)), (1, .int (nI (sumL (fun i => σ (65 + 5 * i + 0)) k))), (2, .int (nI (sumL (fun i => σ (65 + 5 * i + 4)) k))), (3, .int (nI (sumL (fun i => sumL (fun b => if 0 < σ (90 + 10 * i + b) then 1 else 0) (σ 1)) k))), (4, .int (nI (σ 1))), (5, .int (nI 1)), (6, .int (nI k))] dL_trains_115 (by decide) rfl ?_
        refine z_iload C dL_trains_117 3 rfl ?_
        refine z_cut (α := Unit) (fun _ => True) (fun _ => SW κ Sf f ++ (SW κ Sa g ++ (RC ra (Sa 0) (Sf 0) h9 a9 b9 p9 o9))) (fun _ => [(14, .int (nI (((σ (65 + 5 * k + 2)) + (s + 1)) % (σ 1)))), (13, .int (nI (s + 1))), (12, .int (tI (ahL σ (σ (65 + 5 * k + 2)) s))), (11, .int (nI (clL σ (σ (65 + 5 * k + 2)) s))), (10, .int (nI ((σ (5 + 6 * (σ (65 + 5 * k + 2)) + 0)) - (σ (65 + 5 * k + 3))))), (9, .int (nI (spd σ k))), (8, .int (nI (aft σ (σ (65 + 5 * k + 2))))), (7, .int (nI (σ (65 + 5 * k + 2)))), (0, .ref (ra)), (1, .int (nI (sumL (fun i => σ (65 + 5 * i + 0)) k))), (2, .int (nI (sumL (fun i => σ (65 + 5 * i + 4)) k))), (3, .int (nI (sumL (fun i => sumL (fun b => if 0 < σ (90 + 10 * i + b) then 1 else 0) (σ 1)) k))), (4, .int (nI (σ 1))), (5, .int (nI 1)), (6, .int (nI k))]) (fun _ => [.int (nI (if clL σ (σ (65 + 5 * k + 2)) s = s ∧ occ σ ((σ (65 + 5 * k + 2) + (s + 1)) % σ 1) = false then 1 else 0)), .int (nI (clL σ (σ (65 + 5 * k + 2)) s))]) 142 (fun _ _ => ?_) (fun cut142 => ?_)
        · refine zn_iadd C dL_trains_142 ?_
          refine z_istore C [(11, .int (nI ((clL σ (σ (65 + 5 * k + 2)) s) + (if clL σ (σ (65 + 5 * k + 2)) s = s ∧ occ σ ((σ (65 + 5 * k + 2) + (s + 1)) % σ 1) = false then 1 else 0)))), (14, .int (nI (((σ (65 + 5 * k + 2)) + (s + 1)) % (σ 1)))), (13, .int (nI (s + 1))), (12, .int (tI (ahL σ (σ (65 + 5 * k + 2)) s))), (10, .int (nI ((σ (5 + 6 * (σ (65 + 5 * k + 2)) + 0)) - (σ (65 + 5 * k + 3))))), (9, .int (nI (spd σ k))), (8, .int (nI (aft σ (σ (65 + 5 * k + 2))))), (7, .int (nI (σ (65 + 5 * k + 2)))), (0, .ref (ra)), (1, .int (nI (sumL (fun i => σ (65 + 5 * i + 0)) k))), (2, .int (nI (sumL (fun i => σ (65 + 5 * i + 4)) k))), (3, .int (nI (sumL (fun i => sumL (fun b => if 0 < σ (90 + 10 * i + b) then 1 else 0) (σ 1)) k))), (4, .int (nI (σ 1))), (5, .int (nI 1)), (6, .int (nI k))] dL_trains_143 (by decide) rfl ?_
          refine z_cut (α := Unit) (fun _ => True) (fun _ => SW κ Sf f ++ (SW κ Sa g ++ (RC ra (Sa 0) (Sf 0) h9 a9 b9 p9 o9))) (fun _ => [(11, .int (nI ((clL σ (σ (65 + 5 * k + 2)) s) + (if clL σ (σ (65 + 5 * k + 2)) s = s ∧ occ σ ((σ (65 + 5 * k + 2) + (s + 1)) % σ 1) = false then 1 else 0)))), (14, .int (nI (((σ (65 + 5 * k + 2)) + (s + 1)) % (σ 1)))), (13, .int (nI (s + 1))), (10, .int (nI ((σ (5 + 6 * (σ (65 + 5 * k + 2)) + 0)) - (σ (65 + 5 * k + 3))))), (9, .int (nI (spd σ k))), (8, .int (nI (aft σ (σ (65 + 5 * k + 2))))), (7, .int (nI (σ (65 + 5 * k + 2)))), (0, .ref (ra)), (1, .int (nI (sumL (fun i => σ (65 + 5 * i + 0)) k))), (2, .int (nI (sumL (fun i => σ (65 + 5 * i + 4)) k))), (3, .int (nI (sumL (fun i => sumL (fun b => if 0 < σ (90 + 10 * i + b) then 1 else 0) (σ 1)) k))), (4, .int (nI (σ 1))), (5, .int (nI 1)), (6, .int (nI k))]) (fun _ => [.int (tI (ahL σ (σ (65 + 5 * k + 2)) (s + 1)))]) 161 (fun _ _ => ?_) (fun cut161 => ?_)
          · refine z_istore C [(12, .int (tI (ahL σ (σ (65 + 5 * k + 2)) (s + 1)))), (11, .int (nI ((clL σ (σ (65 + 5 * k + 2)) s) + (if clL σ (σ (65 + 5 * k + 2)) s = s ∧ occ σ ((σ (65 + 5 * k + 2) + (s + 1)) % σ 1) = false then 1 else 0)))), (14, .int (nI (((σ (65 + 5 * k + 2)) + (s + 1)) % (σ 1)))), (13, .int (nI (s + 1))), (10, .int (nI ((σ (5 + 6 * (σ (65 + 5 * k + 2)) + 0)) - (σ (65 + 5 * k + 3))))), (9, .int (nI (spd σ k))), (8, .int (nI (aft σ (σ (65 + 5 * k + 2))))), (7, .int (nI (σ (65 + 5 * k + 2)))), (0, .ref (ra)), (1, .int (nI (sumL (fun i => σ (65 + 5 * i + 0)) k))), (2, .int (nI (sumL (fun i => σ (65 + 5 * i + 4)) k))), (3, .int (nI (sumL (fun i => sumL (fun b => if 0 < σ (90 + 10 * i + b) then 1 else 0) (σ 1)) k))), (4, .int (nI (σ 1))), (5, .int (nI 1)), (6, .int (nI k))] dL_trains_161 (by decide) rfl ?_
            refine zn_iinc (n := 1) C [(13, .int (nI ((s + 1) + 1))), (12, .int (tI (ahL σ (σ (65 + 5 * k + 2)) (s + 1)))), (11, .int (nI ((clL σ (σ (65 + 5 * k + 2)) s) + (if clL σ (σ (65 + 5 * k + 2)) s = s ∧ occ σ ((σ (65 + 5 * k + 2) + (s + 1)) % σ 1) = false then 1 else 0)))), (14, .int (nI (((σ (65 + 5 * k + 2)) + (s + 1)) % (σ 1)))), (10, .int (nI ((σ (5 + 6 * (σ (65 + 5 * k + 2)) + 0)) - (σ (65 + 5 * k + 3))))), (9, .int (nI (spd σ k))), (8, .int (nI (aft σ (σ (65 + 5 * k + 2))))), (7, .int (nI (σ (65 + 5 * k + 2)))), (0, .ref (ra)), (1, .int (nI (sumL (fun i => σ (65 + 5 * i + 0)) k))), (2, .int (nI (sumL (fun i => σ (65 + 5 * i + 4)) k))), (3, .int (nI (sumL (fun i => sumL (fun b => if 0 < σ (90 + 10 * i + b) then 1 else 0) (σ 1)) k))), (4, .int (nI (σ 1))), (5, .int (nI 1)), (6, .int (nI k))] dL_trains_163 3 rfl (by decide) rfl ?_
            refine z_goto (tgt := 100) C dL_trains_166 (by decide) ?_
            refine z_lv [0, 1, 2, 4, 5, 6, 7, 8, 9, 10, 11, 12, 13, 14] rfl ?_
            exact ih100 (s + 1) (by omega) (by omega)
          refine z_iload C dL_trains_145 3 rfl ?_
          refine zt_if_ge C 159 dL_trains_147 (by decide) (by omega) (fun h17 => ?_) (fun h18 => ?_)
          · refine z_iload C dL_trains_159 3 rfl ?_
            refine z_lv [0, 1, 2, 4, 5, 6, 7, 8, 9, 10, 11, 12, 13, 14] rfl ?_
            exact z_eq (cut161 () trivial) rfl (rfl) rfl (congrArg (fun x => [Value.int (tI x)]) (show ahL σ (σ (65 + 5 * k + 2)) s = ahL σ (σ (65 + 5 * k + 2)) (s + 1) from by simp only [ahL]; rw [if_neg (by omega)]))
          · refine z_aload_n C dL_trains_150 8 rfl ?_
            refine z_iload C dL_trains_151 1 rfl ?_
            refine z_callV C (mX5_trainIn_ok l D κ Sa g ra (Sf 0) h9 a9 b9 p9 o9 σ M (((σ (65 + 5 * k + 2)) + (s + 1)) % (σ 1)) hr hv (by omega)) gL_trains_X5_trainIn rfl rfl rfl hdX5_trainIn ⟨(Nat.le_of_ble_eq_true rfl), (Nat.le_of_ble_eq_true rfl)⟩ 13 rfl rfl (SW κ Sf f) (fun _ => SW κ Sf f ++ (SW κ Sa g ++ (RC ra (Sa 0) (Sf 0) h9 a9 b9 p9 o9))) (List.perm_append_comm) (fun _ => List.perm_append_comm) rfl (Nat.le_of_ble_eq_true rfl) dL_trains_153 ⟨Nat.le_of_ble_eq_true rfl, Nat.le_of_ble_eq_true rfl⟩ (fun _ _ => ?_)
            refine z_goto (tgt := 161) C dL_trains_156 (by decide) ?_
            refine z_lv [0, 1, 2, 4, 5, 6, 7, 8, 9, 10, 11, 12, 13, 14] rfl ?_
            exact z_eq (cut161 () trivial) rfl (rfl) rfl (congrArg (fun x => [Value.int (tI x)]) (show trAt σ (((σ (65 + 5 * k + 2)) + (s + 1)) % (σ 1)) = ahL σ (σ (65 + 5 * k + 2)) (s + 1) from by simp only [ahL]; rw [if_pos h18]))
        refine z_iload C dL_trains_119 3 rfl ?_
        refine z_iload C dL_trains_121 1 rfl ?_
        refine z_iconst (v := nI 1) C dL_trains_123 (by decide) ?_
        refine zn_isub C dL_trains_124 (by omega) ?_
        refine zn_icmp_ne C 141 dL_trains_125 (by decide) (by omega) (by omega) (fun h19 => ?_) (fun h20 => ?_)
        · refine z_iconst (v := nI 0) C dL_trains_141 (by decide) ?_
          refine z_lv [0, 1, 2, 3, 4, 5, 6, 7, 8, 9, 10, 11, 12, 13, 14] rfl ?_
          exact z_eq (cut142 () trivial) rfl (rfl) rfl (congrArg (fun n => [Value.int (nI n), _]) (show 0 = (if clL σ (σ (65 + 5 * k + 2)) s = s ∧ occ σ ((σ (65 + 5 * k + 2) + (s + 1)) % σ 1) = false then 1 else 0) from by rw [if_neg (fun z => absurd z.1 (by omega))]))
        · refine z_aload_n C dL_trains_128 8 rfl ?_
          refine z_iload C dL_trains_129 0 rfl ?_
          refine z_callS C (mL_occupied l D κ Sa g ra (Sf 0) h9 a9 b9 p9 o9 σ M (((σ (65 + 5 * k + 2)) + (s + 1)) % (σ 1)) hr hv (by omega)) gL_trains_L_occupied rfl rfl rfl hdL_occupied ⟨(Nat.le_of_ble_eq_true rfl), (Nat.le_of_ble_eq_true rfl)⟩ (SW κ Sf f) (fun _ => SW κ Sf f ++ (SW κ Sa g ++ (RC ra (Sa 0) (Sf 0) h9 a9 b9 p9 o9))) (List.perm_append_comm) (fun _ => List.perm_append_comm) rfl (Nat.le_of_ble_eq_true rfl) dL_trains_131 ⟨Nat.le_of_ble_eq_true rfl, Nat.le_of_ble_eq_true rfl⟩ (fun _ _ => ?_)
          refine zb_if_ne C 141 dL_trains_134 (by decide) (fun h21 => ?_) (fun h22 => ?_)
          · refine z_iconst (v := nI 0) C dL_trains_141 (by decide) ?_
            refine z_lv [0, 1, 2, 3, 4, 5, 6, 7, 8, 9, 10, 11, 12, 13, 14] rfl ?_
            exact z_eq (cut142 () trivial) rfl (rfl) rfl (congrArg (fun n => [Value.int (nI n), _]) (show 0 = (if clL σ (σ (65 + 5 * k + 2)) s = s ∧ occ σ ((σ (65 + 5 * k + 2) + (s + 1)) % σ 1) = false then 1 else 0) from by rw [if_neg (fun z => absurd (h21.symm.trans z.2) (by decide))]))
          · refine z_iconst (v := nI 1) C dL_trains_137 (by decide) ?_
            refine z_goto (tgt := 142) C dL_trains_138 (by decide) ?_
            refine z_lv [0, 1, 2, 3, 4, 5, 6, 7, 8, 9, 10, 11, 12, 13, 14] rfl ?_
            exact z_eq (cut142 () trivial) rfl (rfl) rfl (congrArg (fun n => [Value.int (nI n), _]) (show 1 = (if clL σ (σ (65 + 5 * k + 2)) s = s ∧ occ σ ((σ (65 + 5 * k + 2) + (s + 1)) % σ 1) = false then 1 else 0) from by rw [if_pos ⟨by omega, h22⟩]))
    refine z_iload C dL_trains_40 0 rfl ?_
    refine z_iconst (v := nI 1) C dL_trains_42 (by decide) ?_
    refine zn_iadd C dL_trains_43 ?_
    refine z_iload C dL_trains_44 5 rfl ?_
    refine zn_icmp_ne C 53 dL_trains_46 (by decide) (by omega) (by omega) (fun h23 => ?_) (fun h24 => ?_)
    · refine z_iload C dL_trains_53 0 rfl ?_
      refine z_iconst (v := nI 1) C dL_trains_55 (by decide) ?_
      refine zn_iadd C dL_trains_56 ?_
      refine z_lv [0, 1, 2, 3, 4, 5, 6, 7] rfl ?_
      exact z_eq (cut57 () trivial) rfl (rfl) rfl (congrArg (fun n => [Value.int (nI n)]) (show (σ (65 + 5 * k + 2)) + 1 = aft σ (σ (65 + 5 * k + 2)) from by simp only [aft]; rw [if_neg (by omega)]))
    · refine z_iconst (v := nI 0) C dL_trains_49 (by decide) ?_
      refine z_goto (tgt := 57) C dL_trains_50 (by decide) ?_
      refine z_lv [0, 1, 2, 3, 4, 5, 6, 7] rfl ?_
      exact z_eq (cut57 () trivial) rfl (rfl) rfl (congrArg (fun n => [Value.int (nI n)]) (show 0 = aft σ (σ (65 + 5 * k + 2)) from by simp only [aft]; rw [if_pos (by omega)]))
theorem hdL_trains : yL_trains.cls ≠ "java/lang/invoke/MethodHandle" ∧ yL_trains.cls ≠ "java/lang/invoke/VarHandle" ∧ (parseMethodDescriptor yL_trains.desc).map (fun d => d.parameters.length) = some 1 := by decide +kernel
end LT
