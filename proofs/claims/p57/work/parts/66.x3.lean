section X3
set_option maxRecDepth 100000 in
set_option maxHeartbeats 4000000 in
theorem mX5_passages_ok (l : Launch) (D : va_G) (κ : Nat → ClassId) (Sa : Nat → Nat) (g : Nat → Nat → Nat) (ra f9 h9 a9 b9 p9 o9 : Nat) (σ : Nat → Nat) (M : Nat) (b q : Nat) (hr : Rep g σ) (hv : Inv M σ) (hb : b < σ 2) (hq : q < σ 1) : zM l yX5_passages wsX5_passages { frames := 1, cells := 0, slots := 0, locals := 22 } D (zTy κ) [.ref ra, .int (nI b), .int (nI q)] (SW κ Sa g ++ (RC ra (Sa 0) f9 h9 a9 b9 p9 o9)) (S := Unit) (fun _ => (some (.int (nI (σ (90 + 10 * b + q)))))) (fun _ => True) (fun _ => SW κ Sa g ++ (RC ra (Sa 0) f9 h9 a9 b9 p9 o9)) 0 0 := by
  refine zM_of (cc := cX5_passages) (maxL := 3) (rt := (some .int)) [(0, .ref (ra)), (1, .int (nI b)), (2, .int (nI q))] (by decide +kernel) rfl (Nat.le_of_ble_eq_true rfl) rfl ?_
  intro p e s m args below meth c A C hr9 hk hnm
  have C : zC p s m args c cX5_passages 3 wsX5_passages RX5 D (zTy κ) A := C
  have hin5 : ∀ w ∈ wsX50, w ∈ wsX5_passages := fun w h => List.mem_cons_of_mem _ (List.mem_append_left _ (List.mem_append_left _ (List.mem_append_right _ h)))
  have hin4 : ∀ w ∈ wsX40, w ∈ wsX5_passages := fun w h => List.mem_cons_of_mem _ (List.mem_append_left _ (List.mem_append_right _ h))
  have k10 : Cond.fieldLink RX5 10 "PeatRailway" "current" "LPeatRailway$State;" ∈ wsX5_passages := by decide +kernel
  refine z_eq (ws' := SW κ Sa g ++ (RC ra (Sa 0) f9 h9 a9 b9 p9 o9 ++ [])) ?_ rfl rfl rfl rfl
  have hn1 := hv.n1
  have hn2 := hv.n2
  refine z_aload_n C dX5_passages_0 0 rfl ?_
  refine z_iload_n C dX5_passages_1 1 rfl ?_
  refine z_callV C (mX5_requireTrain_ok l D κ Sa _ ra f9 h9 a9 b9 p9 o9 σ M b hr hv (by omega)) gX5_passages_X5_requireTrain rfl rfl rfl hdX5_requireTrain ⟨Nat.le_of_ble_eq_true rfl, Nat.le_of_ble_eq_true rfl⟩ 13 rfl rfl [] (fun _ => SW κ Sa g ++ (RC ra (Sa 0) f9 h9 a9 b9 p9 o9 ++ [])) (List.Perm.refl _) (fun _ => List.Perm.refl _) rfl (Nat.le_of_ble_eq_true rfl) dX5_passages_2 ⟨Nat.zero_le _, Nat.zero_le _⟩ (fun _ _ => ?_)
  refine z_aload_n C dX5_passages_5 0 rfl ?_
  refine z_iload_n C dX5_passages_6 2 rfl ?_
  refine z_callV C (mX5_requireBlock_ok l D κ Sa _ ra f9 h9 a9 b9 p9 o9 σ M q hr hv (by omega)) gX5_passages_X5_requireBlock rfl rfl rfl hdX5_requireBlock ⟨Nat.le_of_ble_eq_true rfl, Nat.le_of_ble_eq_true rfl⟩ 13 rfl rfl [] (fun _ => SW κ Sa g ++ (RC ra (Sa 0) f9 h9 a9 b9 p9 o9 ++ [])) (List.Perm.refl _) (fun _ => List.Perm.refl _) rfl (Nat.le_of_ble_eq_true rfl) dX5_passages_7 ⟨Nat.zero_le _, Nat.zero_le _⟩ (fun _ _ => ?_)
  refine z_aload_n C dX5_passages_10 0 rfl ?_
  refine z_get C hin5 13 rfl rfl 0 (by decide) k10 rfl dX5_passages_11 ?_
  refine z_iload_n C dX5_passages_14 1 rfl ?_
  refine z_iload_n C dX5_passages_15 2 rfl ?_
  refine zc_call C (mX4_passagesOf l D κ Sa _ _ _ b q hr hv (by omega) (by omega)) gX5_passages_X4_passagesOf rfl rfl rfl hdX4_passagesOf ⟨Nat.le_of_ble_eq_true rfl, Nat.le_of_ble_eq_true rfl⟩ rfl (Nat.le_of_ble_eq_true rfl) dX5_passages_16 ⟨Nat.zero_le _, Nat.zero_le _⟩ ?_
  exact z_iret C hr9 hk (()) (rfl) (trivial) (List.Perm.of_eq rfl) dX5_passages_19 (Nat.le_refl _) (Nat.le_refl _)
theorem hdX5_passages : yX5_passages.cls = RX5 ∧ yX5_passages.cls ≠ "java/lang/invoke/MethodHandle" ∧ yX5_passages.cls ≠ "java/lang/invoke/VarHandle" ∧ (parseMethodDescriptor yX5_passages.desc).map (fun d => d.parameters.length) = some 2 := by decide +kernel
set_option maxRecDepth 100000 in
set_option maxHeartbeats 4000000 in
theorem mX5_passages_no (l : Launch) (D : va_G) (κ : Nat → ClassId) (adK adV : Nat → Nat) (Sa : Nat → Nat) (g : Nat → Nat → Nat) (ra f9 h9 a9 b9 p9 o9 : Nat) (σ : Nat → Nat) (M : Nat) (x y : Int32) (hls : l.stackTraces = false) (hr : Rep g σ) (hv : Inv M σ) (hx : isB (σ 2) x = false) : zX (aX adK adV) l yX5_passages wsX5_passages { frames := 7, cells := 1, slots := 6, locals := 103 } D (zTy κ) [.ref (ra), .int (x), .int (y)] (SW κ Sa g ++ (RC ra (Sa 0) f9 h9 a9 b9 p9 o9)) eIB (S := Unit) (fun _ => True) (fun _ => SW κ Sa g ++ (RC ra (Sa 0) f9 h9 a9 b9 p9 o9)) 1 6 := by
  refine zX_of (cc := cX5_passages) (maxL := 3) (rt := (some .int)) [(0, .ref (ra)), (1, .int (x)), (2, .int (y))] (by decide +kernel) rfl (Nat.le_of_ble_eq_true rfl) rfl ?_
  intro p e s m args below meth c A C hk htab hX
  have C : zC p s m args c cX5_passages 3 wsX5_passages RX5 D (zTy κ) A := C
  have hin5 : ∀ w ∈ wsX50, w ∈ wsX5_passages := fun w h => List.mem_cons_of_mem _ (List.mem_append_left _ (List.mem_append_left _ (List.mem_append_right _ h)))
  have hin4 : ∀ w ∈ wsX40, w ∈ wsX5_passages := fun w h => List.mem_cons_of_mem _ (List.mem_append_left _ (List.mem_append_right _ h))
  have k10 : Cond.fieldLink RX5 10 "PeatRailway" "current" "LPeatRailway$State;" ∈ wsX5_passages := by decide +kernel
  refine z_eq (ws' := SW κ Sa g ++ (RC ra (Sa 0) f9 h9 a9 b9 p9 o9 ++ [])) ?_ rfl rfl rfl rfl
  have hn1 := hv.n1
  have hn2 := hv.n2
  refine z_aload_n C dX5_passages_0 0 rfl ?_
  refine z_iload_n C dX5_passages_1 1 rfl ?_
  exact zx_callV C htab hk (aX_ok adK adV) hX (mX5_requireTrain_no l D κ adK adV Sa _ ra f9 h9 a9 b9 p9 o9 σ M (x) hls hr hv hx) gX5_passages_X5_requireTrain rfl rfl rfl hdX5_requireTrain ⟨(Nat.le_of_ble_eq_true rfl), (Nat.le_of_ble_eq_true rfl)⟩ 13 rfl rfl [] (List.Perm.refl _) rfl (Nat.le_of_ble_eq_true rfl) dX5_passages_2 ⟨(Nat.le_of_ble_eq_true rfl), (Nat.le_of_ble_eq_true rfl)⟩ (Nat.le_of_ble_eq_true rfl) (Nat.le_of_ble_eq_true rfl) (fun u _ => ⟨(), trivial, List.Perm.of_eq rfl⟩)
set_option maxRecDepth 100000 in
set_option maxHeartbeats 4000000 in
theorem mX5_passages_nb (l : Launch) (D : va_G) (κ : Nat → ClassId) (adK adV : Nat → Nat) (Sa : Nat → Nat) (g : Nat → Nat → Nat) (ra f9 h9 a9 b9 p9 o9 : Nat) (σ : Nat → Nat) (M : Nat) (b : Nat) (x : Int32) (hls : l.stackTraces = false) (hr : Rep g σ) (hv : Inv M σ) (hb : b < σ 2) (hx : isB (σ 1) x = false) : zX (aX adK adV) l yX5_passages wsX5_passages { frames := 7, cells := 1, slots := 6, locals := 103 } D (zTy κ) [.ref (ra), .int (nI b), .int (x)] (SW κ Sa g ++ (RC ra (Sa 0) f9 h9 a9 b9 p9 o9)) eIB (S := Unit) (fun _ => True) (fun _ => SW κ Sa g ++ (RC ra (Sa 0) f9 h9 a9 b9 p9 o9)) 1 6 := by
  refine zX_of (cc := cX5_passages) (maxL := 3) (rt := (some .int)) [(0, .ref (ra)), (1, .int (nI b)), (2, .int (x))] (by decide +kernel) rfl (Nat.le_of_ble_eq_true rfl) rfl ?_
  intro p e s m args below meth c A C hk htab hX
  have C : zC p s m args c cX5_passages 3 wsX5_passages RX5 D (zTy κ) A := C
  have hin5 : ∀ w ∈ wsX50, w ∈ wsX5_passages := fun w h => List.mem_cons_of_mem _ (List.mem_append_left _ (List.mem_append_left _ (List.mem_append_right _ h)))
  have hin4 : ∀ w ∈ wsX40, w ∈ wsX5_passages := fun w h => List.mem_cons_of_mem _ (List.mem_append_left _ (List.mem_append_right _ h))
  have k10 : Cond.fieldLink RX5 10 "PeatRailway" "current" "LPeatRailway$State;" ∈ wsX5_passages := by decide +kernel
  refine z_eq (ws' := SW κ Sa g ++ (RC ra (Sa 0) f9 h9 a9 b9 p9 o9 ++ [])) ?_ rfl rfl rfl rfl
  have hn1 := hv.n1
  have hn2 := hv.n2
  refine z_aload_n C dX5_passages_0 0 rfl ?_
  refine z_iload_n C dX5_passages_1 1 rfl ?_
  refine z_callV C (mX5_requireTrain_ok l D κ Sa _ ra f9 h9 a9 b9 p9 o9 σ M b hr hv (by omega)) gX5_passages_X5_requireTrain rfl rfl rfl hdX5_requireTrain ⟨Nat.le_of_ble_eq_true rfl, Nat.le_of_ble_eq_true rfl⟩ 13 rfl rfl [] (fun _ => SW κ Sa g ++ (RC ra (Sa 0) f9 h9 a9 b9 p9 o9 ++ [])) (List.Perm.refl _) (fun _ => List.Perm.refl _) rfl (Nat.le_of_ble_eq_true rfl) dX5_passages_2 ⟨Nat.zero_le _, Nat.zero_le _⟩ (fun _ _ => ?_)
  refine z_aload_n C dX5_passages_5 0 rfl ?_
  refine z_iload_n C dX5_passages_6 2 rfl ?_
  exact zx_callV C htab hk (aX_ok adK adV) hX (mX5_requireBlock_no l D κ adK adV Sa _ ra f9 h9 a9 b9 p9 o9 σ M (x) hls hr hv hx) gX5_passages_X5_requireBlock rfl rfl rfl hdX5_requireBlock ⟨(Nat.le_of_ble_eq_true rfl), (Nat.le_of_ble_eq_true rfl)⟩ 13 rfl rfl [] (List.Perm.refl _) rfl (Nat.le_of_ble_eq_true rfl) dX5_passages_7 ⟨(Nat.le_of_ble_eq_true rfl), (Nat.le_of_ble_eq_true rfl)⟩ (Nat.le_of_ble_eq_true rfl) (Nat.le_of_ble_eq_true rfl) (fun u _ => ⟨(), trivial, List.Perm.of_eq rfl⟩)
set_option maxRecDepth 100000 in
set_option maxHeartbeats 4000000 in
theorem mX5_differentPassages (l : Launch) (D : va_G) (κ : Nat → ClassId) (Sa : Nat → Nat) (g : Nat → Nat → Nat) (ra f9 h9 a9 b9 p9 o9 : Nat) (σ : Nat → Nat) (M : Nat)  (hr : Rep g σ) (hv : Inv M σ) : zM l yX5_differentPassages wsX5_differentPassages { frames := 1, cells := 0, slots := 0, locals := 22 } D (zTy κ) [.ref ra] (SW κ Sa g ++ (RC ra (Sa 0) f9 h9 a9 b9 p9 o9)) (S := Unit) (fun _ => (some (.int (nI (sumL (fun i => sumL (fun b => if 0 < σ (90 + 10 * i + b) then 1 else 0) (σ 1)) (σ 2)))))) (fun _ => True) (fun _ => SW κ Sa g ++ (RC ra (Sa 0) f9 h9 a9 b9 p9 o9)) 0 0 := by
  refine zM_of (cc := cX5_differentPassages) (maxL := 4) (rt := (some .int)) [(0, .ref (ra))] (by decide +kernel) rfl (Nat.le_of_ble_eq_true rfl) rfl ?_
  intro p e s m args below meth c A C hr9 hk hnm
  have C : zC p s m args c cX5_differentPassages 4 wsX5_differentPassages RX5 D (zTy κ) A := C
  have hin5 : ∀ w ∈ wsX50, w ∈ wsX5_differentPassages := fun w h => List.mem_cons_of_mem _ (List.mem_append_left _ (List.mem_append_right _ h))
  have hin4 : ∀ w ∈ wsX40, w ∈ wsX5_differentPassages := fun w h => List.mem_cons_of_mem _ (List.mem_append_right _ h)
  have k10 : Cond.fieldLink RX5 10 "PeatRailway" "current" "LPeatRailway$State;" ∈ wsX5_differentPassages := by decide +kernel
  have k145 : Cond.fieldLink RX5 145 "PeatRailway$State" "trainCount" "I" ∈ wsX5_differentPassages := by decide +kernel
  have k107 : Cond.fieldLink RX5 107 "PeatRailway$State" "blockCount" "I" ∈ wsX5_differentPassages := by decide +kernel
  refine z_eq (ws' := SW κ Sa g ++ (RC ra (Sa 0) f9 h9 a9 b9 p9 o9 ++ [])) ?_ rfl rfl rfl rfl
  have hn1 := hv.n1
  have hn2 := hv.n2
  refine z_iconst (v := nI 0) C dX5_differentPassages_0 (by decide) ?_
  refine z_istore_n C [(1, .int (nI 0)), (0, .ref (ra))] dX5_differentPassages_1 (by decide) rfl ?_
  refine z_iconst (v := nI 0) C dX5_differentPassages_2 (by decide) ?_
  refine z_istore_n C [(2, .int (nI 0)), (1, .int (nI 0)), (0, .ref (ra))] dX5_differentPassages_3 (by decide) rfl ?_
  refine z_lv [2, 1, 0] rfl ?_
  refine z_loop (σ := Nat × Nat) (fun x => SW κ Sa g ++ (RC ra (Sa 0) f9 h9 a9 b9 p9 o9 ++ [])) (fun x => [(0, .ref (ra)), (1, .int (nI x.2)), (2, .int (nI x.1))]) (fun x => x.1 ≤ σ 2 ∧ x.2 = sumL (fun i => sumL (fun b => if 0 < σ (90 + 10 * i + b) then 1 else 0) (σ 1)) x.1) (fun x => σ 2 - x.1) ((0, 0)) (⟨Nat.zero_le _, rfl⟩) rfl rfl ?_
  rintro ⟨k, c0⟩ hI4 ih4
  dsimp only at hI4 ih4 ⊢
  obtain ⟨hi1, hi2⟩ := hI4
  refine z_iload_n C dX5_differentPassages_4 2 rfl ?_
  refine z_aload_n C dX5_differentPassages_5 0 rfl ?_
  refine z_get C hin5 13 rfl rfl 0 (by decide) k10 rfl dX5_differentPassages_6 ?_
  refine zs_get_trainCount C hin4 (x := σ 2) k145 dX5_differentPassages_9 hr.1.s2 ?_
  refine zn_icmp_ge C 55 dX5_differentPassages_12 (by decide) (by omega) (by omega) (fun h1 => ?_) (fun h2 => ?_)
  · refine z_iload_n C dX5_differentPassages_55 1 rfl ?_
    exact z_iret C hr9 hk (()) (congrArg (fun n => some (Value.int (nI n))) (show sumL (fun i => sumL (fun b => if 0 < σ (90 + 10 * i + b) then 1 else 0) (σ 1)) (σ 2) = c0 from by rw [hi2, show k = σ 2 from by omega])) (trivial) (List.Perm.of_eq rfl) dX5_differentPassages_56 (Nat.le_refl _) (Nat.le_refl _)
  · refine z_iconst (v := nI 0) C dX5_differentPassages_15 (by decide) ?_
    refine z_istore_n C [(3, .int (nI 0)), (0, .ref (ra)), (1, .int (nI c0)), (2, .int (nI k))] dX5_differentPassages_16 (by decide) rfl ?_
    refine z_lv [1, 2, 3, 0] rfl ?_
    refine z_loop (σ := Nat × Nat) (fun x => SW κ Sa g ++ (RC ra (Sa 0) f9 h9 a9 b9 p9 o9 ++ [])) (fun x => [(0, .ref (ra)), (1, .int (nI x.2)), (2, .int (nI k)), (3, .int (nI x.1))]) (fun x => x.1 ≤ σ 1 ∧ x.2 = sumL (fun i => sumL (fun b => if 0 < σ (90 + 10 * i + b) then 1 else 0) (σ 1)) k + sumL (fun b => if 0 < σ (90 + 10 * k + b) then 1 else 0) x.1) (fun x => σ 1 - x.1) ((0, c0)) (⟨Nat.zero_le _, by rw [hi2]; rfl⟩) rfl rfl ?_
    rintro ⟨j, c1⟩ hI17 ih17
    dsimp only at hI17 ih17 ⊢
    obtain ⟨hj1, hj2⟩ := hI17
    refine z_iload_n C dX5_differentPassages_17 3 rfl ?_
    refine z_aload_n C dX5_differentPassages_18 0 rfl ?_
    refine z_get C hin5 13 rfl rfl 0 (by decide) k10 rfl dX5_differentPassages_19 ?_
    refine zs_get_blockCount C hin4 (x := σ 1) k107 dX5_differentPassages_22 hr.1.s1 ?_
    refine zn_icmp_ge C 49 dX5_differentPassages_25 (by decide) (by omega) (by omega) (fun h3 => ?_) (fun h4 => ?_)
    · refine zn_iinc (n := 1) C [(2, .int (nI (k + 1))), (0, .ref (ra)), (1, .int (nI c1)), (3, .int (nI j))] dX5_differentPassages_49 2 rfl (by decide) rfl ?_
      refine z_goto (tgt := 4) C dX5_differentPassages_52 (by decide) ?_
      refine z_lv [1, 2, 0] rfl ?_
      exact ih4 (k + 1, c1) ⟨by dsimp only; omega, by dsimp only; rw [hj2, show j = σ 1 from by omega]; rfl⟩ (by dsimp only; omega)
    · have hbd := hv.bd (90 + 10 * k + j) (by omega) (by omega)
      refine z_aload_n C dX5_differentPassages_28 0 rfl ?_
      refine z_get C hin5 13 rfl rfl 0 (by decide) k10 rfl dX5_differentPassages_29 ?_
      refine z_iload_n C dX5_differentPassages_32 2 rfl ?_
      refine z_iload_n C dX5_differentPassages_33 3 rfl ?_
      refine zc_call C (mX4_passagesOf l D κ Sa _ _ _ k j hr hv (by omega) (by omega)) gX5_differentPassages_X4_passagesOf rfl rfl rfl hdX4_passagesOf ⟨Nat.le_of_ble_eq_true rfl, Nat.le_of_ble_eq_true rfl⟩ rfl (Nat.le_of_ble_eq_true rfl) dX5_differentPassages_34 ⟨Nat.zero_le _, Nat.zero_le _⟩ ?_
      refine zn_if_le C 43 dX5_differentPassages_37 (by decide) (by omega) (fun h5 => ?_) (fun h6 => ?_)
      · refine zn_iinc (n := 1) C [(3, .int (nI (j + 1))), (0, .ref (ra)), (1, .int (nI c1)), (2, .int (nI k))] dX5_differentPassages_43 3 rfl (by decide) rfl ?_
        refine z_goto (tgt := 17) C dX5_differentPassages_46 (by decide) ?_
        refine z_lv [1, 2, 3, 0] rfl ?_
        exact ih17 (j + 1, c1) ⟨by dsimp only; omega, by dsimp only; rw [hj2]; simp only [sumL]; split <;> omega⟩ (by dsimp only; omega)
      · refine zn_iinc (n := 1) C [(1, .int (nI (c1 + 1))), (0, .ref (ra)), (2, .int (nI k)), (3, .int (nI j))] dX5_differentPassages_40 1 rfl (by decide) rfl ?_
        refine zn_iinc (n := 1) C [(3, .int (nI (j + 1))), (1, .int (nI (c1 + 1))), (0, .ref (ra)), (2, .int (nI k))] dX5_differentPassages_43 3 rfl (by decide) rfl ?_
        refine z_goto (tgt := 17) C dX5_differentPassages_46 (by decide) ?_
        refine z_lv [2, 1, 3, 0] rfl ?_
        exact ih17 (j + 1, c1 + 1) ⟨by dsimp only; omega, by dsimp only; rw [hj2]; simp only [sumL]; split <;> omega⟩ (by dsimp only; omega)
theorem hdX5_differentPassages : yX5_differentPassages.cls = RX5 ∧ yX5_differentPassages.cls ≠ "java/lang/invoke/MethodHandle" ∧ yX5_differentPassages.cls ≠ "java/lang/invoke/VarHandle" ∧ (parseMethodDescriptor yX5_differentPassages.desc).map (fun d => d.parameters.length) = some 0 := by decide +kernel
set_option maxRecDepth 100000 in
set_option maxHeartbeats 4000000 in
theorem mX5_sharedBlocks (l : Launch) (D : va_G) (κ : Nat → ClassId) (Sa : Nat → Nat) (g : Nat → Nat → Nat) (ra f9 h9 a9 b9 p9 o9 : Nat) (σ : Nat → Nat) (M : Nat)  (hr : Rep g σ) (hv : Inv M σ) : zM l yX5_sharedBlocks wsX5_sharedBlocks { frames := 0, cells := 0, slots := 0, locals := 0 } D (zTy κ) [.ref ra] (SW κ Sa g ++ (RC ra (Sa 0) f9 h9 a9 b9 p9 o9)) (S := Unit) (fun _ => (some (.int (nI (sumL (fun i => sumL (fun b => if σ (65 + 5 * i + 2) = σ (65 + 5 * b + 2) then 1 else 0) (i)) (σ 2)))))) (fun _ => True) (fun _ => SW κ Sa g ++ (RC ra (Sa 0) f9 h9 a9 b9 p9 o9)) 0 0 := by
  refine zM_of (cc := cX5_sharedBlocks) (maxL := 4) (rt := (some .int)) [(0, .ref (ra))] (by decide +kernel) rfl (Nat.le_of_ble_eq_true rfl) rfl ?_
  intro p e s m args below meth c A C hr9 hk hnm
  have C : zC p s m args c cX5_sharedBlocks 4 wsX5_sharedBlocks RX5 D (zTy κ) A := C
  have hin5 : ∀ w ∈ wsX50, w ∈ wsX5_sharedBlocks := fun w h => List.mem_cons_of_mem _ (List.mem_append_left _ (List.mem_append_right _ h))
  have hin4 : ∀ w ∈ wsX40, w ∈ wsX5_sharedBlocks := fun w h => List.mem_cons_of_mem _ (List.mem_append_right _ h)
  have k10 : Cond.fieldLink RX5 10 "PeatRailway" "current" "LPeatRailway$State;" ∈ wsX5_sharedBlocks := by decide +kernel
  have k145 : Cond.fieldLink RX5 145 "PeatRailway$State" "trainCount" "I" ∈ wsX5_sharedBlocks := by decide +kernel
  have k166 : Cond.fieldLink RX5 166 "PeatRailway$State" "place" "[I" ∈ wsX5_sharedBlocks := by decide +kernel
  refine z_eq (ws' := SW κ Sa g ++ (RC ra (Sa 0) f9 h9 a9 b9 p9 o9 ++ [])) ?_ rfl rfl rfl rfl
  have hn1 := hv.n1
  have hn2 := hv.n2
  refine z_iconst (v := nI 0) C dX5_sharedBlocks_0 (by decide) ?_
  refine z_istore_n C [(1, .int (nI 0)), (0, .ref (ra))] dX5_sharedBlocks_1 (by decide) rfl ?_
  refine z_iconst (v := nI 0) C dX5_sharedBlocks_2 (by decide) ?_
  refine z_istore_n C [(2, .int (nI 0)), (1, .int (nI 0)), (0, .ref (ra))] dX5_sharedBlocks_3 (by decide) rfl ?_
  refine z_lv [2, 1, 0] rfl ?_
  refine z_loop (σ := Nat × Nat) (fun x => SW κ Sa g ++ (RC ra (Sa 0) f9 h9 a9 b9 p9 o9 ++ [])) (fun x => [(0, .ref (ra)), (1, .int (nI x.2)), (2, .int (nI x.1))]) (fun x => x.1 ≤ σ 2 ∧ x.2 = sumL (fun i => sumL (fun b => if σ (65 + 5 * i + 2) = σ (65 + 5 * b + 2) then 1 else 0) (i)) x.1) (fun x => σ 2 - x.1) ((0, 0)) (⟨Nat.zero_le _, rfl⟩) rfl rfl ?_
  rintro ⟨k, c0⟩ hI4 ih4
  dsimp only at hI4 ih4 ⊢
  obtain ⟨hi1, hi2⟩ := hI4
  refine z_iload_n C dX5_sharedBlocks_4 2 rfl ?_
  refine z_aload_n C dX5_sharedBlocks_5 0 rfl ?_
  refine z_get C hin5 13 rfl rfl 0 (by decide) k10 rfl dX5_sharedBlocks_6 ?_
  refine zs_get_trainCount C hin4 (x := σ 2) k145 dX5_sharedBlocks_9 hr.1.s2 ?_
  refine zn_icmp_ge C 58 dX5_sharedBlocks_12 (by decide) (by omega) (by omega) (fun h1 => ?_) (fun h2 => ?_)
  · refine z_iload_n C dX5_sharedBlocks_58 1 rfl ?_
    exact z_iret C hr9 hk (()) (congrArg (fun n => some (Value.int (nI n))) (show sumL (fun i => sumL (fun b => if σ (65 + 5 * i + 2) = σ (65 + 5 * b + 2) then 1 else 0) (i)) (σ 2) = c0 from by rw [hi2, show k = σ 2 from by omega])) (trivial) (List.Perm.of_eq rfl) dX5_sharedBlocks_59 (Nat.le_refl _) (Nat.le_refl _)
  · refine z_iconst (v := nI 0) C dX5_sharedBlocks_15 (by decide) ?_
    refine z_istore_n C [(3, .int (nI 0)), (0, .ref (ra)), (1, .int (nI c0)), (2, .int (nI k))] dX5_sharedBlocks_16 (by decide) rfl ?_
    refine z_lv [1, 2, 3, 0] rfl ?_
    refine z_loop (σ := Nat × Nat) (fun x => SW κ Sa g ++ (RC ra (Sa 0) f9 h9 a9 b9 p9 o9 ++ [])) (fun x => [(0, .ref (ra)), (1, .int (nI x.2)), (2, .int (nI k)), (3, .int (nI x.1))]) (fun x => x.1 ≤ k ∧ x.2 = sumL (fun i => sumL (fun b => if σ (65 + 5 * i + 2) = σ (65 + 5 * b + 2) then 1 else 0) (i)) k + sumL (fun b => if σ (65 + 5 * k + 2) = σ (65 + 5 * b + 2) then 1 else 0) x.1) (fun x => k - x.1) ((0, c0)) (⟨Nat.zero_le _, by rw [hi2]; rfl⟩) rfl rfl ?_
    rintro ⟨j, c1⟩ hI17 ih17
    dsimp only at hI17 ih17 ⊢
    obtain ⟨hj1, hj2⟩ := hI17
    refine z_iload_n C dX5_sharedBlocks_17 3 rfl ?_
    refine z_iload_n C dX5_sharedBlocks_18 2 rfl ?_
    refine zn_icmp_ge C 52 dX5_sharedBlocks_19 (by decide) (by omega) (by omega) (fun h3 => ?_) (fun h4 => ?_)
    · refine zn_iinc (n := 1) C [(2, .int (nI (k + 1))), (0, .ref (ra)), (1, .int (nI c1)), (3, .int (nI j))] dX5_sharedBlocks_52 2 rfl (by decide) rfl ?_
      refine z_goto (tgt := 4) C dX5_sharedBlocks_55 (by decide) ?_
      refine z_lv [1, 2, 0] rfl ?_
      exact ih4 (k + 1, c1) ⟨by dsimp only; omega, by dsimp only; rw [hj2, show j = k from by omega]; rfl⟩ (by dsimp only; omega)
    · have hbd1 := hv.bd (65 + 5 * k + 2) (by omega) (by omega)
      have hbd2 := hv.bd (65 + 5 * j + 2) (by omega) (by omega)
      refine z_aload_n C dX5_sharedBlocks_22 0 rfl ?_
      refine z_get C hin5 13 rfl rfl 0 (by decide) k10 rfl dX5_sharedBlocks_23 ?_
      refine zs_get_place C hin4 k166 dX5_sharedBlocks_26 ?_
      refine z_iload_n C dX5_sharedBlocks_29 3 rfl ?_
      refine zs_ald_place C (x := σ (65 + 5 * j + 2)) (by omega) (hr.1.t11 (by omega)) dX5_sharedBlocks_30 ?_
      refine z_aload_n C dX5_sharedBlocks_31 0 rfl ?_
      refine z_get C hin5 13 rfl rfl 0 (by decide) k10 rfl dX5_sharedBlocks_32 ?_
      refine zs_get_place C hin4 k166 dX5_sharedBlocks_35 ?_
      refine z_iload_n C dX5_sharedBlocks_38 2 rfl ?_
      refine zs_ald_place C (x := σ (65 + 5 * k + 2)) (by omega) (hr.1.t11 (by omega)) dX5_sharedBlocks_39 ?_
      refine zn_icmp_ne C 46 dX5_sharedBlocks_40 (by decide) (by omega) (by omega) (fun h5 => ?_) (fun h6 => ?_)
      · refine zn_iinc (n := 1) C [(3, .int (nI (j + 1))), (0, .ref (ra)), (1, .int (nI c1)), (2, .int (nI k))] dX5_sharedBlocks_46 3 rfl (by decide) rfl ?_
        refine z_goto (tgt := 17) C dX5_sharedBlocks_49 (by decide) ?_
        refine z_lv [1, 2, 3, 0] rfl ?_
        exact ih17 (j + 1, c1) ⟨by dsimp only; omega, by dsimp only; rw [hj2]; simp only [sumL]; split <;> omega⟩ (by dsimp only; omega)
      · refine zn_iinc (n := 1) C [(1, .int (nI (c1 + 1))), (0, .ref (ra)), (2, .int (nI k)), (3, .int (nI j))] dX5_sharedBlocks_43 1 rfl (by decide) rfl ?_
        refine zn_iinc (n := 1) C [(3, .int (nI (j + 1))), (1, .int (nI (c1 + 1))), (0, .ref (ra)), (2, .int (nI k))] dX5_sharedBlocks_46 3 rfl (by decide) rfl ?_
        refine z_goto (tgt := 17) C dX5_sharedBlocks_49 (by decide) ?_
        refine z_lv [2, 1, 3, 0] rfl ?_
        exact ih17 (j + 1, c1 + 1) ⟨by dsimp only; omega, by dsimp only; rw [hj2]; simp only [sumL]; split <;> omega⟩ (by dsimp only; omega)
theorem hdX5_sharedBlocks : yX5_sharedBlocks.cls = RX5 ∧ yX5_sharedBlocks.cls ≠ "java/lang/invoke/MethodHandle" ∧ yX5_sharedBlocks.cls ≠ "java/lang/invoke/VarHandle" ∧ (parseMethodDescriptor yX5_sharedBlocks.desc).map (fun d => d.parameters.length) = some 0 := by decide +kernel
set_option maxRecDepth 100000 in
set_option maxHeartbeats 4000000 in
theorem mX5_wagonDifference (l : Launch) (D : va_G) (κ : Nat → ClassId) (Sa : Nat → Nat) (g : Nat → Nat → Nat) (ra f9 h9 a9 b9 p9 o9 : Nat) (σ : Nat → Nat) (M : Nat)  (hr : Rep g σ) (hv : Inv M σ) : zM l yX5_wagonDifference wsX5_wagonDifference { frames := 1, cells := 0, slots := 0, locals := 22 } D (zTy κ) [.ref ra] (SW κ Sa g ++ (RC ra (Sa 0) f9 h9 a9 b9 p9 o9)) (S := Unit) (fun _ => (some (.int (abI (nI (sumL (fun k => σ (65 + 5 * k + 0)) (σ 2) + sumL (fun k => σ (5 + 6 * k + 5)) (σ 1) + σ 3) - nI (σ 4)))))) (fun _ => True) (fun _ => SW κ Sa g ++ (RC ra (Sa 0) f9 h9 a9 b9 p9 o9)) 0 0 := by
  refine zM_of (cc := cX5_wagonDifference) (maxL := 2) (rt := (some .int)) [(0, .ref (ra))] (by decide +kernel) rfl (Nat.le_of_ble_eq_true rfl) rfl ?_
  intro p e s m args below meth c A C hr9 hk hnm
  have C : zC p s m args c cX5_wagonDifference 2 wsX5_wagonDifference RX5 D (zTy κ) A := C
  have hin5 : ∀ w ∈ wsX50, w ∈ wsX5_wagonDifference := fun w h => List.mem_cons_of_mem _ (List.mem_append_left _ (List.mem_append_right _ h))
  have hin4 : ∀ w ∈ wsX40, w ∈ wsX5_wagonDifference := fun w h => List.mem_cons_of_mem _ (List.mem_append_right _ h)
  have k10 : Cond.fieldLink RX5 10 "PeatRailway" "current" "LPeatRailway$State;" ∈ wsX5_wagonDifference := by decide +kernel
  have k201 : Cond.fieldLink RX5 201 "PeatRailway$State" "removed" "I" ∈ wsX5_wagonDifference := by decide +kernel
  have k204 : Cond.fieldLink RX5 204 "PeatRailway$State" "added" "I" ∈ wsX5_wagonDifference := by decide +kernel
  refine z_eq (ws' := SW κ Sa g ++ (RC ra (Sa 0) f9 h9 a9 b9 p9 o9 ++ [])) ?_ rfl rfl rfl rfl
  have hn1 := hv.n1
  have hn2 := hv.n2
  refine z_aload_n C dX5_wagonDifference_0 0 rfl ?_
  refine z_get C hin5 13 rfl rfl 0 (by decide) k10 rfl dX5_wagonDifference_1 ?_
  refine zc_call C (mX4_sumOfWagons l D κ Sa _ _ _  hr hv ) gX5_wagonDifference_X4_sumOfWagons rfl rfl rfl hdX4_sumOfWagons ⟨Nat.le_of_ble_eq_true rfl, Nat.le_of_ble_eq_true rfl⟩ rfl (Nat.le_of_ble_eq_true rfl) dX5_wagonDifference_4 ⟨Nat.zero_le _, Nat.zero_le _⟩ ?_
  refine z_aload_n C dX5_wagonDifference_7 0 rfl ?_
  refine z_get C hin5 13 rfl rfl 0 (by decide) k10 rfl dX5_wagonDifference_8 ?_
  refine zc_call C (mX4_sumOfLost l D κ Sa _ _ _  hr hv ) gX5_wagonDifference_X4_sumOfLost rfl rfl rfl hdX4_sumOfLost ⟨Nat.le_of_ble_eq_true rfl, Nat.le_of_ble_eq_true rfl⟩ rfl (Nat.le_of_ble_eq_true rfl) dX5_wagonDifference_11 ⟨Nat.zero_le _, Nat.zero_le _⟩ ?_
  refine zn_iadd C dX5_wagonDifference_14 ?_
  refine z_aload_n C dX5_wagonDifference_15 0 rfl ?_
  refine z_get C hin5 13 rfl rfl 0 (by decide) k10 rfl dX5_wagonDifference_16 ?_
  refine zs_get_removed C hin4 (x := σ 3) k201 dX5_wagonDifference_19 hr.1.s3 ?_
  refine zn_iadd C dX5_wagonDifference_22 ?_
  refine z_istore_n C [(1, .int (nI (((sumL (fun t => σ (65 + 5 * t + 0)) (σ 2)) + (sumL (fun b => σ (5 + 6 * b + 5)) (σ 1))) + (σ 3)))), (0, .ref (ra))] dX5_wagonDifference_23 (by decide) rfl ?_
  refine z_iload_n C dX5_wagonDifference_24 0 rfl ?_
  refine z_aload_n C dX5_wagonDifference_25 1 rfl ?_
  refine z_get C hin5 13 rfl rfl 0 (by decide) k10 rfl dX5_wagonDifference_26 ?_
  refine zs_get_added C hin4 (x := σ 4) k204 dX5_wagonDifference_29 hr.1.s4 ?_
  refine z_isub C dX5_wagonDifference_32 ?_
  refine z_abs C (show Cond.methodLink RX5 207 Lib.Math.abs.name ∈ wsX5_wagonDifference from by decide +kernel) (by decide +kernel) (by decide +kernel) (by decide +kernel) ⟨Nat.le_of_ble_eq_true rfl, Nat.le_of_ble_eq_true rfl⟩ (Nat.le_of_ble_eq_true rfl) dX5_wagonDifference_33 ⟨Nat.zero_le _, Nat.zero_le _⟩ ?_
  exact z_iret C hr9 hk (()) (rfl) (trivial) (List.Perm.of_eq rfl) dX5_wagonDifference_36 (Nat.le_refl _) (Nat.le_refl _)
theorem hdX5_wagonDifference : yX5_wagonDifference.cls = RX5 ∧ yX5_wagonDifference.cls ≠ "java/lang/invoke/MethodHandle" ∧ yX5_wagonDifference.cls ≠ "java/lang/invoke/VarHandle" ∧ (parseMethodDescriptor yX5_wagonDifference.desc).map (fun d => d.parameters.length) = some 0 := by decide +kernel
set_option maxRecDepth 100000 in
set_option maxHeartbeats 4000000 in
theorem mX5_ticksToEnd_ok (l : Launch) (D : va_G) (κ : Nat → ClassId) (Sa : Nat → Nat) (g : Nat → Nat → Nat) (ra f9 h9 a9 b9 p9 o9 : Nat) (σ : Nat → Nat) (M : Nat) (b : Nat) (hr : Rep g σ) (hv : Inv M σ) (hb : b < σ 2) : zM l yX5_ticksToEnd wsX5_ticksToEnd { frames := 2, cells := 0, slots := 0, locals := 42 } D (zTy κ) [.ref ra, .int (nI b)] (SW κ Sa g ++ (RC ra (Sa 0) f9 h9 a9 b9 p9 o9)) (S := Unit) (fun _ => (some (.int (nI ((σ (5 + 6 * σ (65 + 5 * b + 2) + 0) - σ (65 + 5 * b + 3) + spd σ b - 1) / spd σ b))))) (fun _ => True) (fun _ => SW κ Sa g ++ (RC ra (Sa 0) f9 h9 a9 b9 p9 o9)) 0 0 := by
  refine zM_of (cc := cX5_ticksToEnd) (maxL := 4) (rt := (some .int)) [(0, .ref (ra)), (1, .int (nI b))] (by decide +kernel) rfl (Nat.le_of_ble_eq_true rfl) rfl ?_
  intro p e s m args below meth c A C hr9 hk hnm
  have C : zC p s m args c cX5_ticksToEnd 4 wsX5_ticksToEnd RX5 D (zTy κ) A := C
  have hin5 : ∀ w ∈ wsX50, w ∈ wsX5_ticksToEnd := fun w h => List.mem_cons_of_mem _ (List.mem_append_left _ (List.mem_append_left _ (List.mem_append_right _ h)))
  have hin4 : ∀ w ∈ wsX40, w ∈ wsX5_ticksToEnd := fun w h => List.mem_cons_of_mem _ (List.mem_append_left _ (List.mem_append_right _ h))
  have k10 : Cond.fieldLink RX5 10 "PeatRailway" "current" "LPeatRailway$State;" ∈ wsX5_ticksToEnd := by decide +kernel
  have k122 : Cond.fieldLink RX5 122 "PeatRailway$State" "length" "[I" ∈ wsX5_ticksToEnd := by decide +kernel
  have k166 : Cond.fieldLink RX5 166 "PeatRailway$State" "place" "[I" ∈ wsX5_ticksToEnd := by decide +kernel
  have k169 : Cond.fieldLink RX5 169 "PeatRailway$State" "position" "[I" ∈ wsX5_ticksToEnd := by decide +kernel
  refine z_eq (ws' := SW κ Sa g ++ (RC ra (Sa 0) f9 h9 a9 b9 p9 o9 ++ [])) ?_ rfl rfl rfl rfl
  have hn1 := hv.n1
  have hn2 := hv.n2
  have ht9 := hv.trn hb
  have hb9 := hv.blk ht9.2.2.2.2.1
  have hs9 := spd_pos hv.2.1 hb
  refine z_aload_n C dX5_ticksToEnd_0 0 rfl ?_
  refine z_iload_n C dX5_ticksToEnd_1 1 rfl ?_
  refine z_callV C (mX5_requireTrain_ok l D κ Sa _ ra f9 h9 a9 b9 p9 o9 σ M b hr hv (by omega)) gX5_ticksToEnd_X5_requireTrain rfl rfl rfl hdX5_requireTrain ⟨Nat.le_of_ble_eq_true rfl, Nat.le_of_ble_eq_true rfl⟩ 13 rfl rfl [] (fun _ => SW κ Sa g ++ (RC ra (Sa 0) f9 h9 a9 b9 p9 o9 ++ [])) (List.Perm.refl _) (fun _ => List.Perm.refl _) rfl (Nat.le_of_ble_eq_true rfl) dX5_ticksToEnd_2 ⟨Nat.zero_le _, Nat.zero_le _⟩ (fun _ _ => ?_)
  refine z_aload_n C dX5_ticksToEnd_5 0 rfl ?_
  refine z_get C hin5 13 rfl rfl 0 (by decide) k10 rfl dX5_ticksToEnd_6 ?_
  refine zs_get_length C hin4 k122 dX5_ticksToEnd_9 ?_
  refine z_aload_n C dX5_ticksToEnd_12 0 rfl ?_
  refine z_get C hin5 13 rfl rfl 0 (by decide) k10 rfl dX5_ticksToEnd_13 ?_
  refine zs_get_place C hin4 k166 dX5_ticksToEnd_16 ?_
  refine z_iload_n C dX5_ticksToEnd_19 1 rfl ?_
  refine zs_ald_place C (x := σ (65 + 5 * b + 2)) (by omega) (hr.1.t11 (by omega)) dX5_ticksToEnd_20 ?_
  refine zs_ald_length C (x := σ (5 + 6 * (σ (65 + 5 * b + 2)) + 0)) (by omega) (hr.1.b5 (by omega)) dX5_ticksToEnd_21 ?_
  refine z_aload_n C dX5_ticksToEnd_22 0 rfl ?_
  refine z_get C hin5 13 rfl rfl 0 (by decide) k10 rfl dX5_ticksToEnd_23 ?_
  refine zs_get_position C hin4 k169 dX5_ticksToEnd_26 ?_
  refine z_iload_n C dX5_ticksToEnd_29 1 rfl ?_
  refine zs_ald_position C (x := σ (65 + 5 * b + 3)) (by omega) (hr.1.t12 (by omega)) dX5_ticksToEnd_30 ?_
  refine zn_isub C dX5_ticksToEnd_31 (by omega) ?_
  refine z_istore_n C [(2, .int (nI ((σ (5 + 6 * (σ (65 + 5 * b + 2)) + 0)) - (σ (65 + 5 * b + 3))))), (0, .ref (ra)), (1, .int (nI b))] dX5_ticksToEnd_32 (by decide) rfl ?_
  refine z_aload_n C dX5_ticksToEnd_33 1 rfl ?_
  refine z_get C hin5 13 rfl rfl 0 (by decide) k10 rfl dX5_ticksToEnd_34 ?_
  refine z_iload_n C dX5_ticksToEnd_37 2 rfl ?_
  refine zc_call C (mX4_speedNow l D κ Sa _ _ _ b hr hv (by omega)) gX5_ticksToEnd_X4_speedNow rfl rfl rfl hdX4_speedNow ⟨Nat.le_of_ble_eq_true rfl, Nat.le_of_ble_eq_true rfl⟩ rfl (Nat.le_of_ble_eq_true rfl) dX5_ticksToEnd_38 ⟨Nat.zero_le _, Nat.zero_le _⟩ ?_
  refine z_istore_n C [(3, .int (nI (spd σ b))), (2, .int (nI ((σ (5 + 6 * (σ (65 + 5 * b + 2)) + 0)) - (σ (65 + 5 * b + 3))))), (0, .ref (ra)), (1, .int (nI b))] dX5_ticksToEnd_41 (by decide) rfl ?_
  refine z_iload_n C dX5_ticksToEnd_42 0 rfl ?_
  refine z_iconst (v := nI 1) C dX5_ticksToEnd_43 (by decide) ?_
  refine zn_icmp_ge C 51 dX5_ticksToEnd_44 (by decide) (by omega) (by omega) (fun h1 => ?_) (fun h2 => ?_)
  · refine z_iload_n C dX5_ticksToEnd_51 1 rfl ?_
    refine z_iload_n C dX5_ticksToEnd_52 0 rfl ?_
    refine zn_iadd C dX5_ticksToEnd_53 ?_
    refine z_iconst (v := nI 1) C dX5_ticksToEnd_54 (by decide) ?_
    refine zn_isub C dX5_ticksToEnd_55 (by omega) ?_
    refine z_iload_n C dX5_ticksToEnd_56 0 rfl ?_
    refine zn_idiv C dX5_ticksToEnd_57 (by omega) (by omega) (by omega) ?_
    exact z_iret C hr9 hk (()) (rfl) (trivial) (List.Perm.of_eq rfl) dX5_ticksToEnd_58 (Nat.le_refl _) (Nat.le_refl _)
  · exfalso; omega
theorem hdX5_ticksToEnd : yX5_ticksToEnd.cls = RX5 ∧ yX5_ticksToEnd.cls ≠ "java/lang/invoke/MethodHandle" ∧ yX5_ticksToEnd.cls ≠ "java/lang/invoke/VarHandle" ∧ (parseMethodDescriptor yX5_ticksToEnd.desc).map (fun d => d.parameters.length) = some 1 := by decide +kernel
set_option maxRecDepth 100000 in
set_option maxHeartbeats 4000000 in
theorem mX5_ticksToEnd_no (l : Launch) (D : va_G) (κ : Nat → ClassId) (adK adV : Nat → Nat) (Sa : Nat → Nat) (g : Nat → Nat → Nat) (ra f9 h9 a9 b9 p9 o9 : Nat) (σ : Nat → Nat) (M : Nat) (x : Int32) (hls : l.stackTraces = false) (hr : Rep g σ) (hv : Inv M σ) (hx : isB (σ 2) x = false) : zX (aX adK adV) l yX5_ticksToEnd wsX5_ticksToEnd { frames := 7, cells := 1, slots := 6, locals := 103 } D (zTy κ) [.ref (ra), .int (x)] (SW κ Sa g ++ (RC ra (Sa 0) f9 h9 a9 b9 p9 o9)) eIB (S := Unit) (fun _ => True) (fun _ => SW κ Sa g ++ (RC ra (Sa 0) f9 h9 a9 b9 p9 o9)) 1 6 := by
  refine zX_of (cc := cX5_ticksToEnd) (maxL := 4) (rt := (some .int)) [(0, .ref (ra)), (1, .int (x))] (by decide +kernel) rfl (Nat.le_of_ble_eq_true rfl) rfl ?_
  intro p e s m args below meth c A C hk htab hX
  have C : zC p s m args c cX5_ticksToEnd 4 wsX5_ticksToEnd RX5 D (zTy κ) A := C
  have hin5 : ∀ w ∈ wsX50, w ∈ wsX5_ticksToEnd := fun w h => List.mem_cons_of_mem _ (List.mem_append_left _ (List.mem_append_left _ (List.mem_append_right _ h)))
  have hin4 : ∀ w ∈ wsX40, w ∈ wsX5_ticksToEnd := fun w h => List.mem_cons_of_mem _ (List.mem_append_left _ (List.mem_append_right _ h))
  have k10 : Cond.fieldLink RX5 10 "PeatRailway" "current" "LPeatRailway$State;" ∈ wsX5_ticksToEnd := by decide +kernel
  have k122 : Cond.fieldLink RX5 122 "PeatRailway$State" "length" "[I" ∈ wsX5_ticksToEnd := by decide +kernel
  have k166 : Cond.fieldLink RX5 166 "PeatRailway$State" "place" "[I" ∈ wsX5_ticksToEnd := by decide +kernel
  have k169 : Cond.fieldLink RX5 169 "PeatRailway$State" "position" "[I" ∈ wsX5_ticksToEnd := by decide +kernel
  refine z_eq (ws' := SW κ Sa g ++ (RC ra (Sa 0) f9 h9 a9 b9 p9 o9 ++ [])) ?_ rfl rfl rfl rfl
  have hn1 := hv.n1
  have hn2 := hv.n2
  refine z_aload_n C dX5_ticksToEnd_0 0 rfl ?_
  refine z_iload_n C dX5_ticksToEnd_1 1 rfl ?_
  exact zx_callV C htab hk (aX_ok adK adV) hX (mX5_requireTrain_no l D κ adK adV Sa _ ra f9 h9 a9 b9 p9 o9 σ M (x) hls hr hv hx) gX5_ticksToEnd_X5_requireTrain rfl rfl rfl hdX5_requireTrain ⟨(Nat.le_of_ble_eq_true rfl), (Nat.le_of_ble_eq_true rfl)⟩ 13 rfl rfl [] (List.Perm.refl _) rfl (Nat.le_of_ble_eq_true rfl) dX5_ticksToEnd_2 ⟨(Nat.le_of_ble_eq_true rfl), (Nat.le_of_ble_eq_true rfl)⟩ (Nat.le_of_ble_eq_true rfl) (Nat.le_of_ble_eq_true rfl) (fun u _ => ⟨(), trivial, List.Perm.of_eq rfl⟩)
set_option maxRecDepth 100000 in
set_option maxHeartbeats 4000000 in
theorem mX5_trainAhead_ok (l : Launch) (D : va_G) (κ : Nat → ClassId) (Sa : Nat → Nat) (g : Nat → Nat → Nat) (ra f9 h9 a9 b9 p9 o9 : Nat) (σ : Nat → Nat) (M : Nat) (b : Nat) (hr : Rep g σ) (hv : Inv M σ) (hb : b < σ 2) : zM l yX5_trainAhead wsX5_trainAhead { frames := 1, cells := 0, slots := 0, locals := 21 } D (zTy κ) [.ref ra, .int (nI b)] (SW κ Sa g ++ (RC ra (Sa 0) f9 h9 a9 b9 p9 o9)) (S := Unit) (fun _ => (some (.int (tI (ahT σ b))))) (fun _ => True) (fun _ => SW κ Sa g ++ (RC ra (Sa 0) f9 h9 a9 b9 p9 o9)) 0 0 := by
  refine zM_of (cc := cX5_trainAhead) (maxL := 4) (rt := (some .int)) [(0, .ref (ra)), (1, .int (nI b))] (by decide +kernel) rfl (Nat.le_of_ble_eq_true rfl) rfl ?_
  intro p e s m args below meth c A C hr9 hk hnm
  have C : zC p s m args c cX5_trainAhead 4 wsX5_trainAhead RX5 D (zTy κ) A := C
  have hin5 : ∀ w ∈ wsX50, w ∈ wsX5_trainAhead := fun w h => List.mem_cons_of_mem _ (List.mem_append_left _ (List.mem_append_left _ (List.mem_append_right _ h)))
  have hin4 : ∀ w ∈ wsX40, w ∈ wsX5_trainAhead := fun w h => List.mem_cons_of_mem _ (List.mem_append_left _ (List.mem_append_right _ h))
  have k10 : Cond.fieldLink RX5 10 "PeatRailway" "current" "LPeatRailway$State;" ∈ wsX5_trainAhead := by decide +kernel
  have k166 : Cond.fieldLink RX5 166 "PeatRailway$State" "place" "[I" ∈ wsX5_trainAhead := by decide +kernel
  have k107 : Cond.fieldLink RX5 107 "PeatRailway$State" "blockCount" "I" ∈ wsX5_trainAhead := by decide +kernel
  have k139 : Cond.fieldLink RX5 139 "PeatRailway$State" "occupant" "[I" ∈ wsX5_trainAhead := by decide +kernel
  refine z_eq (ws' := SW κ Sa g ++ (RC ra (Sa 0) f9 h9 a9 b9 p9 o9 ++ [])) ?_ rfl rfl rfl rfl
  have hn1 := hv.n1
  have hn2 := hv.n2
  have ht9 := hv.trn hb
  have hp : σ (65 + 5 * b + 2) < σ 1 := ht9.2.2.2.2.1
  refine z_aload_n C dX5_trainAhead_0 0 rfl ?_
  refine z_iload_n C dX5_trainAhead_1 1 rfl ?_
  refine z_callV C (mX5_requireTrain_ok l D κ Sa _ ra f9 h9 a9 b9 p9 o9 σ M b hr hv (by omega)) gX5_trainAhead_X5_requireTrain rfl rfl rfl hdX5_requireTrain ⟨Nat.le_of_ble_eq_true rfl, Nat.le_of_ble_eq_true rfl⟩ 13 rfl rfl [] (fun _ => SW κ Sa g ++ (RC ra (Sa 0) f9 h9 a9 b9 p9 o9 ++ [])) (List.Perm.refl _) (fun _ => List.Perm.refl _) rfl (Nat.le_of_ble_eq_true rfl) dX5_trainAhead_2 ⟨Nat.zero_le _, Nat.zero_le _⟩ (fun _ _ => ?_)
  refine z_aload_n C dX5_trainAhead_5 0 rfl ?_
  refine z_get C hin5 13 rfl rfl 0 (by decide) k10 rfl dX5_trainAhead_6 ?_
  refine zs_get_place C hin4 k166 dX5_trainAhead_9 ?_
  refine z_iload_n C dX5_trainAhead_12 1 rfl ?_
  refine zs_ald_place C (x := σ (65 + 5 * b + 2)) (by omega) (hr.1.t11 (by omega)) dX5_trainAhead_13 ?_
  refine z_istore_n C [(2, .int (nI (σ (65 + 5 * b + 2)))), (0, .ref (ra)), (1, .int (nI b))] dX5_trainAhead_14 (by decide) rfl ?_
  refine z_iconst (v := nI 1) C dX5_trainAhead_15 (by decide) ?_
  refine z_istore_n C [(3, .int (nI 1)), (2, .int (nI (σ (65 + 5 * b + 2)))), (0, .ref (ra)), (1, .int (nI b))] dX5_trainAhead_16 (by decide) rfl ?_
  refine z_lv [2, 3, 1, 0] rfl ?_
  refine z_loop (σ := Nat × Nat) (fun x => SW κ Sa g ++ (RC ra (Sa 0) f9 h9 a9 b9 p9 o9 ++ [])) (fun x => [(0, .ref (ra)), (1, .int (nI b)), (2, .int (nI x.2)), (3, .int (nI x.1))]) (fun x => 1 ≤ x.1 ∧ x.2 < σ 1 ∧ dst σ (σ (65 + 5 * b + 2)) (aft σ x.2) + x.1 = σ 1 ∧ ahd σ (dst σ (σ (65 + 5 * b + 2)) (aft σ x.2)) (aft σ x.2) = ahB σ b) (fun x => σ 1 - x.1) ((1, σ (65 + 5 * b + 2))) (⟨Nat.le_refl _, hp, dst_1 hp, rfl⟩) rfl rfl ?_
  rintro ⟨n, q⟩ hI17 ih17
  dsimp only at hI17 ih17 ⊢
  obtain ⟨q1, q2, q3, q4⟩ := hI17
  refine z_iload_n C dX5_trainAhead_17 3 rfl ?_
  refine z_aload_n C dX5_trainAhead_18 0 rfl ?_
  refine z_get C hin5 13 rfl rfl 0 (by decide) k10 rfl dX5_trainAhead_19 ?_
  refine zs_get_blockCount C hin4 (x := σ 1) k107 dX5_trainAhead_22 hr.1.s1 ?_
  refine zn_icmp_ge C 66 dX5_trainAhead_25 (by decide) (by omega) (by omega) (fun h1 => ?_) (fun h2 => ?_)
  · refine z_iconst (v := (-1)) C dX5_trainAhead_66 (by decide) ?_
    have e0 : dst σ (σ (65 + 5 * b + 2)) (aft σ q) = 0 := by omega
    rw [e0] at q4
    have e1 : ahB σ b = σ (65 + 5 * b + 2) := q4.symm.trans (dst_0 hp (aft_lt q2) e0)
    exact z_iret C hr9 hk (()) (congrArg (fun n => some (Value.int (tI n))) (show ahT σ b = 0 from by simp only [ahT]; rw [e1, if_pos ((trAt_iff hv.2.1 hb).mpr rfl)])) (trivial) (List.Perm.of_eq rfl) dX5_trainAhead_67 (Nat.le_refl _) (Nat.le_refl _)
  · have hg := ah_go (show dst σ (σ (65 + 5 * b + 2)) (aft σ q) ≠ 0 by omega) hp q2
    have hla := aft_lt q2
    have htr := hv.tr (aft σ q)
    refine z_aload_n C dX5_trainAhead_28 0 rfl ?_
    refine z_get C hin5 13 rfl rfl 0 (by decide) k10 rfl dX5_trainAhead_29 ?_
    refine z_iload_n C dX5_trainAhead_32 2 rfl ?_
    refine zc_call C (mX4_nextBlock l D κ Sa _ _ _ q hr hv (by omega)) gX5_trainAhead_X4_nextBlock rfl rfl rfl hdX4_nextBlock ⟨Nat.le_of_ble_eq_true rfl, Nat.le_of_ble_eq_true rfl⟩ rfl (Nat.le_of_ble_eq_true rfl) dX5_trainAhead_33 ⟨Nat.zero_le _, Nat.zero_le _⟩ ?_
    refine z_istore_n C [(2, .int (nI (aft σ q))), (0, .ref (ra)), (1, .int (nI b)), (3, .int (nI n))] dX5_trainAhead_36 (by decide) rfl ?_
    refine z_aload_n C dX5_trainAhead_37 1 rfl ?_
    refine z_get C hin5 13 rfl rfl 0 (by decide) k10 rfl dX5_trainAhead_38 ?_
    refine zs_get_occupant C hin4 k139 dX5_trainAhead_41 ?_
    refine z_iload_n C dX5_trainAhead_44 0 rfl ?_
    refine zs_ald_occupant C (x := trAt σ (aft σ q)) (by omega) (hr.2 _ (by omega)) dX5_trainAhead_45 ?_
    refine z_iconst (v := (-1)) C dX5_trainAhead_46 (by decide) ?_
    refine zt_icmp_eq C 60 dX5_trainAhead_47 (by decide) (by omega) (fun h3 => ?_) (fun h4 => ?_)
    · refine zn_iinc (n := 1) C [(3, .int (nI (n + 1))), (2, .int (nI (aft σ q))), (0, .ref (ra)), (1, .int (nI b))] dX5_trainAhead_60 3 rfl (by decide) rfl ?_
      refine z_goto (tgt := 17) C dX5_trainAhead_63 (by decide) ?_
      refine z_lv [2, 3, 1, 0] rfl ?_
      exact ih17 (n + 1, aft σ q) ⟨by dsimp only; omega, aft_lt q2, by dsimp only; omega, by dsimp only; rw [← q4, hg.2.1, if_pos h3]⟩ (by dsimp only; omega)
    · refine z_aload_n C dX5_trainAhead_50 1 rfl ?_
      refine z_get C hin5 13 rfl rfl 0 (by decide) k10 rfl dX5_trainAhead_51 ?_
      refine zs_get_occupant C hin4 k139 dX5_trainAhead_54 ?_
      refine z_iload_n C dX5_trainAhead_57 0 rfl ?_
      refine zs_ald_occupant C (x := trAt σ (aft σ q)) (by omega) (hr.2 _ (by omega)) dX5_trainAhead_58 ?_
      have e9 : ahB σ b = aft σ q := by rw [← q4, hg.2.1, if_neg (by omega)]
      exact z_iret C hr9 hk (()) (congrArg (fun n => some (Value.int (tI n))) (show ahT σ b = trAt σ (aft σ q) from by simp only [ahT]; rw [e9, if_neg (fun z => hg.1 ((trAt_iff hv.2.1 hb).mp z).symm)])) (trivial) (List.Perm.of_eq rfl) dX5_trainAhead_59 (Nat.le_refl _) (Nat.le_refl _)
theorem hdX5_trainAhead : yX5_trainAhead.cls = RX5 ∧ yX5_trainAhead.cls ≠ "java/lang/invoke/MethodHandle" ∧ yX5_trainAhead.cls ≠ "java/lang/invoke/VarHandle" ∧ (parseMethodDescriptor yX5_trainAhead.desc).map (fun d => d.parameters.length) = some 1 := by decide +kernel
set_option maxRecDepth 100000 in
set_option maxHeartbeats 4000000 in
theorem mX5_trainAhead_no (l : Launch) (D : va_G) (κ : Nat → ClassId) (adK adV : Nat → Nat) (Sa : Nat → Nat) (g : Nat → Nat → Nat) (ra f9 h9 a9 b9 p9 o9 : Nat) (σ : Nat → Nat) (M : Nat) (x : Int32) (hls : l.stackTraces = false) (hr : Rep g σ) (hv : Inv M σ) (hx : isB (σ 2) x = false) : zX (aX adK adV) l yX5_trainAhead wsX5_trainAhead { frames := 7, cells := 1, slots := 6, locals := 103 } D (zTy κ) [.ref (ra), .int (x)] (SW κ Sa g ++ (RC ra (Sa 0) f9 h9 a9 b9 p9 o9)) eIB (S := Unit) (fun _ => True) (fun _ => SW κ Sa g ++ (RC ra (Sa 0) f9 h9 a9 b9 p9 o9)) 1 6 := by
  refine zX_of (cc := cX5_trainAhead) (maxL := 4) (rt := (some .int)) [(0, .ref (ra)), (1, .int (x))] (by decide +kernel) rfl (Nat.le_of_ble_eq_true rfl) rfl ?_
  intro p e s m args below meth c A C hk htab hX
  have C : zC p s m args c cX5_trainAhead 4 wsX5_trainAhead RX5 D (zTy κ) A := C
  have hin5 : ∀ w ∈ wsX50, w ∈ wsX5_trainAhead := fun w h => List.mem_cons_of_mem _ (List.mem_append_left _ (List.mem_append_left _ (List.mem_append_right _ h)))
  have hin4 : ∀ w ∈ wsX40, w ∈ wsX5_trainAhead := fun w h => List.mem_cons_of_mem _ (List.mem_append_left _ (List.mem_append_right _ h))
  have k10 : Cond.fieldLink RX5 10 "PeatRailway" "current" "LPeatRailway$State;" ∈ wsX5_trainAhead := by decide +kernel
  have k166 : Cond.fieldLink RX5 166 "PeatRailway$State" "place" "[I" ∈ wsX5_trainAhead := by decide +kernel
  have k107 : Cond.fieldLink RX5 107 "PeatRailway$State" "blockCount" "I" ∈ wsX5_trainAhead := by decide +kernel
  have k139 : Cond.fieldLink RX5 139 "PeatRailway$State" "occupant" "[I" ∈ wsX5_trainAhead := by decide +kernel
  refine z_eq (ws' := SW κ Sa g ++ (RC ra (Sa 0) f9 h9 a9 b9 p9 o9 ++ [])) ?_ rfl rfl rfl rfl
  have hn1 := hv.n1
  have hn2 := hv.n2
  refine z_aload_n C dX5_trainAhead_0 0 rfl ?_
  refine z_iload_n C dX5_trainAhead_1 1 rfl ?_
  exact zx_callV C htab hk (aX_ok adK adV) hX (mX5_requireTrain_no l D κ adK adV Sa _ ra f9 h9 a9 b9 p9 o9 σ M (x) hls hr hv hx) gX5_trainAhead_X5_requireTrain rfl rfl rfl hdX5_requireTrain ⟨(Nat.le_of_ble_eq_true rfl), (Nat.le_of_ble_eq_true rfl)⟩ 13 rfl rfl [] (List.Perm.refl _) rfl (Nat.le_of_ble_eq_true rfl) dX5_trainAhead_2 ⟨(Nat.le_of_ble_eq_true rfl), (Nat.le_of_ble_eq_true rfl)⟩ (Nat.le_of_ble_eq_true rfl) (Nat.le_of_ble_eq_true rfl) (fun u _ => ⟨(), trivial, List.Perm.of_eq rfl⟩)
set_option maxRecDepth 100000 in
set_option maxHeartbeats 4000000 in
theorem mX5_clearBlocksAhead_ok (l : Launch) (D : va_G) (κ : Nat → ClassId) (Sa : Nat → Nat) (g : Nat → Nat → Nat) (ra f9 h9 a9 b9 p9 o9 : Nat) (σ : Nat → Nat) (M : Nat) (b : Nat) (hr : Rep g σ) (hv : Inv M σ) (hb : b < σ 2) : zM l yX5_clearBlocksAhead wsX5_clearBlocksAhead { frames := 1, cells := 0, slots := 0, locals := 21 } D (zTy κ) [.ref ra, .int (nI b)] (SW κ Sa g ++ (RC ra (Sa 0) f9 h9 a9 b9 p9 o9)) (S := Unit) (fun _ => (some (.int (nI (cbA σ b))))) (fun _ => True) (fun _ => SW κ Sa g ++ (RC ra (Sa 0) f9 h9 a9 b9 p9 o9)) 0 0 := by
  refine zM_of (cc := cX5_clearBlocksAhead) (maxL := 4) (rt := (some .int)) [(0, .ref (ra)), (1, .int (nI b))] (by decide +kernel) rfl (Nat.le_of_ble_eq_true rfl) rfl ?_
  intro p e s m args below meth c A C hr9 hk hnm
  have C : zC p s m args c cX5_clearBlocksAhead 4 wsX5_clearBlocksAhead RX5 D (zTy κ) A := C
  have hin5 : ∀ w ∈ wsX50, w ∈ wsX5_clearBlocksAhead := fun w h => List.mem_cons_of_mem _ (List.mem_append_left _ (List.mem_append_left _ (List.mem_append_right _ h)))
  have hin4 : ∀ w ∈ wsX40, w ∈ wsX5_clearBlocksAhead := fun w h => List.mem_cons_of_mem _ (List.mem_append_left _ (List.mem_append_right _ h))
  have k10 : Cond.fieldLink RX5 10 "PeatRailway" "current" "LPeatRailway$State;" ∈ wsX5_clearBlocksAhead := by decide +kernel
  have k166 : Cond.fieldLink RX5 166 "PeatRailway$State" "place" "[I" ∈ wsX5_clearBlocksAhead := by decide +kernel
  have k107 : Cond.fieldLink RX5 107 "PeatRailway$State" "blockCount" "I" ∈ wsX5_clearBlocksAhead := by decide +kernel
  refine z_eq (ws' := SW κ Sa g ++ (RC ra (Sa 0) f9 h9 a9 b9 p9 o9 ++ [])) ?_ rfl rfl rfl rfl
  have hn1 := hv.n1
  have hn2 := hv.n2
  have ht9 := hv.trn hb
  have hp : σ (65 + 5 * b + 2) < σ 1 := ht9.2.2.2.2.1
  have hla := aft_lt hp
  refine z_aload_n C dX5_clearBlocksAhead_0 0 rfl ?_
  refine z_iload_n C dX5_clearBlocksAhead_1 1 rfl ?_
  refine z_callV C (mX5_requireTrain_ok l D κ Sa _ ra f9 h9 a9 b9 p9 o9 σ M b hr hv (by omega)) gX5_clearBlocksAhead_X5_requireTrain rfl rfl rfl hdX5_requireTrain ⟨Nat.le_of_ble_eq_true rfl, Nat.le_of_ble_eq_true rfl⟩ 13 rfl rfl [] (fun _ => SW κ Sa g ++ (RC ra (Sa 0) f9 h9 a9 b9 p9 o9 ++ [])) (List.Perm.refl _) (fun _ => List.Perm.refl _) rfl (Nat.le_of_ble_eq_true rfl) dX5_clearBlocksAhead_2 ⟨Nat.zero_le _, Nat.zero_le _⟩ (fun _ _ => ?_)
  refine z_iconst (v := nI 0) C dX5_clearBlocksAhead_5 (by decide) ?_
  refine z_istore_n C [(2, .int (nI 0)), (0, .ref (ra)), (1, .int (nI b))] dX5_clearBlocksAhead_6 (by decide) rfl ?_
  refine z_aload_n C dX5_clearBlocksAhead_7 1 rfl ?_
  refine z_get C hin5 13 rfl rfl 0 (by decide) k10 rfl dX5_clearBlocksAhead_8 ?_
  refine z_aload_n C dX5_clearBlocksAhead_11 1 rfl ?_
  refine z_get C hin5 13 rfl rfl 0 (by decide) k10 rfl dX5_clearBlocksAhead_12 ?_
  refine zs_get_place C hin4 k166 dX5_clearBlocksAhead_15 ?_
  refine z_iload_n C dX5_clearBlocksAhead_18 2 rfl ?_
  refine zs_ald_place C (x := σ (65 + 5 * b + 2)) (by omega) (hr.1.t11 (by omega)) dX5_clearBlocksAhead_19 ?_
  refine zc_call C (mX4_nextBlock l D κ Sa _ _ _ (σ (65 + 5 * b + 2)) hr hv (by omega)) gX5_clearBlocksAhead_X4_nextBlock rfl rfl rfl hdX4_nextBlock ⟨Nat.le_of_ble_eq_true rfl, Nat.le_of_ble_eq_true rfl⟩ rfl (Nat.le_of_ble_eq_true rfl) dX5_clearBlocksAhead_20 ⟨Nat.zero_le _, Nat.zero_le _⟩ ?_
  refine z_istore_n C [(3, .int (nI (aft σ (σ (65 + 5 * b + 2))))), (2, .int (nI 0)), (0, .ref (ra)), (1, .int (nI b))] dX5_clearBlocksAhead_23 (by decide) rfl ?_
  refine z_lv [2, 3, 1, 0] rfl ?_
  refine z_loop (σ := Nat × Nat) (fun x => SW κ Sa g ++ (RC ra (Sa 0) f9 h9 a9 b9 p9 o9 ++ [])) (fun x => [(0, .ref (ra)), (1, .int (nI b)), (2, .int (nI x.1)), (3, .int (nI x.2))]) (fun x => x.1 + cbL σ (dst σ (σ (65 + 5 * b + 2)) x.2 + 1) x.2 = cbA σ b ∧ dst σ (σ (65 + 5 * b + 2)) x.2 + x.1 + 1 = σ 1 ∧ x.2 < σ 1) (fun x => σ 1 - x.1) ((0, aft σ (σ (65 + 5 * b + 2)))) (⟨Nat.zero_add _, by have := dst_1 hp; dsimp only; omega, aft_lt hp⟩) rfl rfl ?_
  rintro ⟨n, q⟩ hI24 ih24
  dsimp only at hI24 ih24 ⊢
  obtain ⟨q1, q2, q3⟩ := hI24
  refine z_iload_n C dX5_clearBlocksAhead_24 2 rfl ?_
  refine z_aload_n C dX5_clearBlocksAhead_25 0 rfl ?_
  refine z_get C hin5 13 rfl rfl 0 (by decide) k10 rfl dX5_clearBlocksAhead_26 ?_
  refine zs_get_blockCount C hin4 (x := σ 1) k107 dX5_clearBlocksAhead_29 hr.1.s1 ?_
  refine zn_icmp_ge C 61 dX5_clearBlocksAhead_32 (by decide) (by omega) (by omega) (fun h1 => ?_) (fun h2 => ?_)
  · exfalso; omega
  · refine z_aload_n C dX5_clearBlocksAhead_35 0 rfl ?_
    refine z_get C hin5 13 rfl rfl 0 (by decide) k10 rfl dX5_clearBlocksAhead_36 ?_
    refine z_iload_n C dX5_clearBlocksAhead_39 3 rfl ?_
    refine zc_call C (mX4_occupied l D κ Sa _ _ _ q hr hv (by omega)) gX5_clearBlocksAhead_X4_occupied rfl rfl rfl hdX4_occupied ⟨Nat.le_of_ble_eq_true rfl, Nat.le_of_ble_eq_true rfl⟩ rfl (Nat.le_of_ble_eq_true rfl) dX5_clearBlocksAhead_40 ⟨Nat.zero_le _, Nat.zero_le _⟩ ?_
    refine zb_if_ne C 61 dX5_clearBlocksAhead_43 (by decide) (fun h3 => ?_) (fun h4 => ?_)
    · refine z_iload_n C dX5_clearBlocksAhead_61 2 rfl ?_
      exact z_iret C hr9 hk (()) (congrArg (fun n => some (Value.int (nI n))) (show cbA σ b = n from by rw [← q1]; show n + (if occ σ q = true then 0 else _) = n; rw [if_pos h3]; rfl)) (trivial) (List.Perm.of_eq rfl) dX5_clearBlocksAhead_62 (Nat.le_refl _) (Nat.le_refl _)
    · have hg := cb_go hb hp q3 h4
      refine zn_iinc (n := 1) C [(2, .int (nI (n + 1))), (0, .ref (ra)), (1, .int (nI b)), (3, .int (nI q))] dX5_clearBlocksAhead_46 2 rfl (by decide) rfl ?_
      refine z_aload_n C dX5_clearBlocksAhead_49 1 rfl ?_
      refine z_get C hin5 13 rfl rfl 0 (by decide) k10 rfl dX5_clearBlocksAhead_50 ?_
      refine z_iload_n C dX5_clearBlocksAhead_53 3 rfl ?_
      refine zc_call C (mX4_nextBlock l D κ Sa _ _ _ q hr hv (by omega)) gX5_clearBlocksAhead_X4_nextBlock rfl rfl rfl hdX4_nextBlock ⟨Nat.le_of_ble_eq_true rfl, Nat.le_of_ble_eq_true rfl⟩ rfl (Nat.le_of_ble_eq_true rfl) dX5_clearBlocksAhead_54 ⟨Nat.zero_le _, Nat.zero_le _⟩ ?_
      refine z_istore_n C [(3, .int (nI (aft σ q))), (2, .int (nI (n + 1))), (0, .ref (ra)), (1, .int (nI b))] dX5_clearBlocksAhead_57 (by decide) rfl ?_
      refine z_goto (tgt := 24) C dX5_clearBlocksAhead_58 (by decide) ?_
      refine z_lv [2, 3, 1, 0] rfl ?_
      exact ih24 (n + 1, aft σ q) ⟨by dsimp only; omega, by dsimp only; omega, aft_lt q3⟩ (by dsimp only; omega)
theorem hdX5_clearBlocksAhead : yX5_clearBlocksAhead.cls = RX5 ∧ yX5_clearBlocksAhead.cls ≠ "java/lang/invoke/MethodHandle" ∧ yX5_clearBlocksAhead.cls ≠ "java/lang/invoke/VarHandle" ∧ (parseMethodDescriptor yX5_clearBlocksAhead.desc).map (fun d => d.parameters.length) = some 1 := by decide +kernel
set_option maxRecDepth 100000 in
set_option maxHeartbeats 4000000 in
theorem mX5_clearBlocksAhead_no (l : Launch) (D : va_G) (κ : Nat → ClassId) (adK adV : Nat → Nat) (Sa : Nat → Nat) (g : Nat → Nat → Nat) (ra f9 h9 a9 b9 p9 o9 : Nat) (σ : Nat → Nat) (M : Nat) (x : Int32) (hls : l.stackTraces = false) (hr : Rep g σ) (hv : Inv M σ) (hx : isB (σ 2) x = false) : zX (aX adK adV) l yX5_clearBlocksAhead wsX5_clearBlocksAhead { frames := 7, cells := 1, slots := 6, locals := 103 } D (zTy κ) [.ref (ra), .int (x)] (SW κ Sa g ++ (RC ra (Sa 0) f9 h9 a9 b9 p9 o9)) eIB (S := Unit) (fun _ => True) (fun _ => SW κ Sa g ++ (RC ra (Sa 0) f9 h9 a9 b9 p9 o9)) 1 6 := by
  refine zX_of (cc := cX5_clearBlocksAhead) (maxL := 4) (rt := (some .int)) [(0, .ref (ra)), (1, .int (x))] (by decide +kernel) rfl (Nat.le_of_ble_eq_true rfl) rfl ?_
  intro p e s m args below meth c A C hk htab hX
  have C : zC p s m args c cX5_clearBlocksAhead 4 wsX5_clearBlocksAhead RX5 D (zTy κ) A := C
  have hin5 : ∀ w ∈ wsX50, w ∈ wsX5_clearBlocksAhead := fun w h => List.mem_cons_of_mem _ (List.mem_append_left _ (List.mem_append_left _ (List.mem_append_right _ h)))
  have hin4 : ∀ w ∈ wsX40, w ∈ wsX5_clearBlocksAhead := fun w h => List.mem_cons_of_mem _ (List.mem_append_left _ (List.mem_append_right _ h))
  have k10 : Cond.fieldLink RX5 10 "PeatRailway" "current" "LPeatRailway$State;" ∈ wsX5_clearBlocksAhead := by decide +kernel
  have k166 : Cond.fieldLink RX5 166 "PeatRailway$State" "place" "[I" ∈ wsX5_clearBlocksAhead := by decide +kernel
  have k107 : Cond.fieldLink RX5 107 "PeatRailway$State" "blockCount" "I" ∈ wsX5_clearBlocksAhead := by decide +kernel
  refine z_eq (ws' := SW κ Sa g ++ (RC ra (Sa 0) f9 h9 a9 b9 p9 o9 ++ [])) ?_ rfl rfl rfl rfl
  have hn1 := hv.n1
  have hn2 := hv.n2
  refine z_aload_n C dX5_clearBlocksAhead_0 0 rfl ?_
  refine z_iload_n C dX5_clearBlocksAhead_1 1 rfl ?_
  exact zx_callV C htab hk (aX_ok adK adV) hX (mX5_requireTrain_no l D κ adK adV Sa _ ra f9 h9 a9 b9 p9 o9 σ M (x) hls hr hv hx) gX5_clearBlocksAhead_X5_requireTrain rfl rfl rfl hdX5_requireTrain ⟨(Nat.le_of_ble_eq_true rfl), (Nat.le_of_ble_eq_true rfl)⟩ 13 rfl rfl [] (List.Perm.refl _) rfl (Nat.le_of_ble_eq_true rfl) dX5_clearBlocksAhead_2 ⟨(Nat.le_of_ble_eq_true rfl), (Nat.le_of_ble_eq_true rfl)⟩ (Nat.le_of_ble_eq_true rfl) (Nat.le_of_ble_eq_true rfl) (fun u _ => ⟨(), trivial, List.Perm.of_eq rfl⟩)
end X3
