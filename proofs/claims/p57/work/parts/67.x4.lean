section X4
theorem lvs_w {σ : Nat → Nat} {t u : Nat} (ht : t < 5) (hu : u < 5) (hb : σ (65 + 5 * t + 2) < 10) : lvs σ t (65 + 5 * u + 4) = σ (65 + 5 * u + 4) := by
  simp only [lvs, lvs2]
  rw [upN_n (by omega), upN_n (by omega)]
  simp only [lvs1]
  split
  · rw [upN_n (by omega), upN_n (by omega)]
  · rfl
theorem mvS_w {M : Nat} {σ : Nat → Nat} (h : Inv M σ) {t u : Nat} (ht : t < σ 2) (hu : u < 5) : σ (65 + 5 * u + 4) ≤ mvS σ t (65 + 5 * u + 4) := by
  have h1 := h.n1
  have h2 := h.n2
  have hp := h.1.p ht
  have e1 : mv1 σ t (65 + 5 * u + 4) = σ (65 + 5 * u + 4) := mv1_at (by omega)
  simp only [mvS]
  split
  · split
    · rw [mv_next h.2.1 ht]
      have ha := aft_lt hp
      simp only [mv2]
      rw [upN_n (by omega), upN_n (by omega), upN_n (by omega), lvs_w (by omega) hu (by rw [mv1_pl]; omega), e1]
      exact Nat.le_refl _
    · rw [upN_if]
      split
      · rename_i e
        rw [← e, e1]
        exact Nat.le_succ _
      · rw [e1]
        exact Nat.le_refl _
  · rw [e1]
    exact Nat.le_refl _
theorem mvLS_w {M : Nat} {u : Nat} (hu : u < 5) : ∀ (n k : Nat) (σ : Nat → Nat), Inv M σ → M + 2 * n < 1073741824 → k + n ≤ σ 2 → σ (65 + 5 * u + 4) ≤ mvLS n k σ (65 + 5 * u + 4) := by
  intro n
  induction n generalizing M with
  | zero => exact fun k σ _ _ _ => Nat.le_refl _
  | succ n ih =>
    intro k σ h hM hk
    refine Nat.le_trans (mvS_w h (show k < σ 2 by omega) hu) (ih (M := M + 2) (k + 1) (mvS σ k) (mvS_inv h (by omega) (by omega)) (by omega) ?_)
    rw [mvS_lo (by omega)]
    omega
theorem tkS_w {M : Nat} {σ : Nat → Nat} (h : Inv M σ) (hM : M + 11 < 1073741824) {u : Nat} (hu : u < 5) : σ (65 + 5 * u + 4) ≤ tkS σ (65 + 5 * u + 4) := by
  have h2 := h.n2
  have h9 := mvLS_w (M := M + 1) hu (σ 2) 0 (upN σ 0 (σ 0 + 1)) (h.tick (by omega)) (by omega) (by rw [upN_n (by omega)]; omega)
  rw [upN_n (by omega)] at h9
  exact h9
theorem wtL_stop {σ0 t n c : Nat} {σ : Nat → Nat} (h : σ (65 + 5 * t + 4) ≠ σ0) : wtL σ0 t n σ c = (σ, c) := by
  cases n with
  | zero => rfl
  | succ n => exact if_neg h
set_option maxRecDepth 100000 in
set_option maxHeartbeats 4000000 in
theorem mX5_blockAfter_ok (l : Launch) (D : va_G) (κ : Nat → ClassId) (Sf Sa : Nat → Nat) (f g : Nat → Nat → Nat) (ra h9 a9 b9 p9 o9 : Nat) (σ : Nat → Nat) (M : Nat) (b n : Nat) (hr : Rep g σ) (hv : Inv M σ) (hb : b < σ 2) (hn : n ≤ 200) (hM : M + 11 * n + 11 < 1073741824) : zM l yX5_blockAfter wsX5_blockAfter { frames := 4, cells := 0, slots := 0, locals := 92 } D (zTy κ) [.ref ra, .int (nI b), .int (nI n)] (SW κ Sf f ++ (SW κ Sa g ++ RC ra (Sa 0) (Sf 0) h9 a9 b9 p9 o9)) (S := Nat → Nat → Nat) (fun _ => some (.int (nI (psS n σ (65 + 5 * b + 2))))) (fun _ => True) (fun u => SW κ Sf u ++ (SW κ Sa g ++ RC ra (Sa 0) (Sf 0) h9 a9 b9 p9 o9)) 0 0 := by
  refine zM_of (cc := cX5_blockAfter) (maxL := 3) (rt := (some .int)) [(0, .ref (ra)), (1, .int (nI b)), (2, .int (nI n))] (by decide +kernel) rfl (Nat.le_of_ble_eq_true rfl) rfl ?_
  intro p e s m args below meth c A C hr9 hk hnm
  have C : zC p s m args c cX5_blockAfter 3 wsX5_blockAfter RX5 D (zTy κ) A := C
  have hin5 : ∀ w ∈ wsX50, w ∈ wsX5_blockAfter := fun w h => List.mem_cons_of_mem _ (List.mem_append_left _ (List.mem_append_left _ (List.mem_append_left _ (List.mem_append_right _ h))))
  have hin4 : ∀ w ∈ wsX40, w ∈ wsX5_blockAfter := fun w h => List.mem_cons_of_mem _ (List.mem_append_left _ (List.mem_append_left _ (List.mem_append_right _ h)))
  have k16 : Cond.fieldLink RX5 16 "PeatRailway" "forecast" "LPeatRailway$State;" ∈ wsX5_blockAfter := by decide +kernel
  have k10 : Cond.fieldLink RX5 10 "PeatRailway" "current" "LPeatRailway$State;" ∈ wsX5_blockAfter := by decide +kernel
  have k166 : Cond.fieldLink RX5 166 "PeatRailway$State" "place" "[I" ∈ wsX5_blockAfter := by decide +kernel
  refine z_eq (ws' := SW κ Sf f ++ (SW κ Sa g ++ (RC ra (Sa 0) (Sf 0) h9 a9 b9 p9 o9 ++ []))) ?_ rfl rfl rfl rfl
  have hn1 := hv.n1
  have hn2 := hv.n2
  refine z_aload_n C dX5_blockAfter_0 0 rfl ?_
  refine z_iload_n C dX5_blockAfter_1 1 rfl ?_
  refine z_callV C (mX5_requireTrain_ok l D κ Sa _ ra (Sf 0) h9 a9 b9 p9 o9 σ M b hr hv (by omega)) gX5_blockAfter_X5_requireTrain rfl rfl rfl hdX5_requireTrain ⟨Nat.le_of_ble_eq_true rfl, Nat.le_of_ble_eq_true rfl⟩ 13 rfl rfl (SW κ Sf f) (fun _ => SW κ Sf f ++ (SW κ Sa g ++ (RC ra (Sa 0) (Sf 0) h9 a9 b9 p9 o9 ++ []))) List.perm_append_comm (fun _ => List.perm_append_comm) rfl (Nat.le_of_ble_eq_true rfl) dX5_blockAfter_2 ⟨Nat.zero_le _, Nat.zero_le _⟩ (fun _ _ => ?_)
  refine z_iload_n C dX5_blockAfter_5 2 rfl ?_
  refine zn_if_lt C 16 dX5_blockAfter_6 (by decide) (by omega) ?_
  refine z_iload_n C dX5_blockAfter_9 2 rfl ?_
  refine z_sipush (v := nI 200) C dX5_blockAfter_10 (by decide) ?_
  refine zn_icmp_le C 26 dX5_blockAfter_13 (by decide) (by omega) (by omega) (fun h1 => ?_) (fun h2 => ?_)
  · refine z_aload_n C dX5_blockAfter_26 0 rfl ?_
    refine z_get C hin5 26 rfl rfl 1 (by decide) k16 rfl dX5_blockAfter_27 ?_
    refine z_aload_n C dX5_blockAfter_30 0 rfl ?_
    refine z_get C hin5 26 rfl rfl 0 (by decide) k10 rfl dX5_blockAfter_31 ?_
    refine z_callV C (mX4_copyFrom l D κ Sf Sa f g) gX5_blockAfter_X4_copyFrom rfl rfl rfl hdX4_copyFrom ⟨Nat.le_of_ble_eq_true rfl, Nat.le_of_ble_eq_true rfl⟩ 0 rfl rfl (RC ra (Sa 0) (Sf 0) h9 a9 b9 p9 o9 ++ []) (fun q => SW κ Sf (upA g 8 q) ++ (SW κ Sa g ++ (RC ra (Sa 0) (Sf 0) h9 a9 b9 p9 o9 ++ []))) (List.Perm.of_eq rfl) (fun _ => List.Perm.of_eq rfl) rfl (Nat.le_of_ble_eq_true rfl) dX5_blockAfter_34 ⟨Nat.zero_le _, Nat.zero_le _⟩ (fun q hq => ?_)
    have hrF := Rep_cp hr hv hq
    refine z_aload_n C dX5_blockAfter_37 0 rfl ?_
    refine z_get C hin5 26 rfl rfl 1 (by decide) k16 rfl dX5_blockAfter_38 ?_
    refine z_iload_n C dX5_blockAfter_41 2 rfl ?_
    refine zc_callR C (mX4_pass l D κ Sf _ _ _ n hrF hv (by omega)) gX5_blockAfter_X4_pass rfl rfl rfl hdX4_pass ⟨Nat.le_of_ble_eq_true rfl, Nat.le_of_ble_eq_true rfl⟩ rfl (Nat.le_of_ble_eq_true rfl) dX5_blockAfter_42 ⟨Nat.zero_le _, Nat.zero_le _⟩ (fun gp hgp => ?_)
    have hvp := psS_inv n σ hv (by omega)
    have h2p := psS_2 n σ
    refine z_pop C dX5_blockAfter_45 rfl ?_
    refine z_aload_n C dX5_blockAfter_46 0 rfl ?_
    refine z_get C hin5 26 rfl rfl 1 (by decide) k16 rfl dX5_blockAfter_47 ?_
    refine zs_get_place C hin4 k166 dX5_blockAfter_50 ?_
    refine z_iload_n C dX5_blockAfter_53 1 rfl ?_
    refine zs_ald_place C (x := (psS n σ) (65 + 5 * b + 2)) (by omega) (hgp.1.t11 (by omega)) dX5_blockAfter_54 ?_
    exact z_iret C hr9 hk (gp) (rfl) (trivial) (List.Perm.of_eq rfl) dX5_blockAfter_55 (Nat.le_refl _) (Nat.le_refl _)
  · exfalso; omega
theorem hdX5_blockAfter : yX5_blockAfter.cls = RX5 ∧ yX5_blockAfter.cls ≠ "java/lang/invoke/MethodHandle" ∧ yX5_blockAfter.cls ≠ "java/lang/invoke/VarHandle" ∧ (parseMethodDescriptor yX5_blockAfter.desc).map (fun d => d.parameters.length) = some 2 := by decide +kernel
set_option maxRecDepth 100000 in
set_option maxHeartbeats 4000000 in
theorem mX5_blockAfter_no (l : Launch) (D : va_G) (κ : Nat → ClassId) (adK adV : Nat → Nat) (Sf Sa : Nat → Nat) (f g : Nat → Nat → Nat) (ra h9 a9 b9 p9 o9 : Nat) (σ : Nat → Nat) (M : Nat) (x y : Int32) (hls : l.stackTraces = false) (hr : Rep g σ) (hv : Inv M σ) (hx : isB (σ 2) x = false) : zX (aX adK adV) l yX5_blockAfter wsX5_blockAfter { frames := 7, cells := 1, slots := 6, locals := 103 } D (zTy κ) [.ref (ra), .int (x), .int (y)] (SW κ Sf f ++ (SW κ Sa g ++ (RC ra (Sa 0) (Sf 0) h9 a9 b9 p9 o9))) eIB (S := Unit) (fun _ => True) (fun _ => SW κ Sf f ++ (SW κ Sa g ++ (RC ra (Sa 0) (Sf 0) h9 a9 b9 p9 o9))) 1 6 := by
  refine zX_of (cc := cX5_blockAfter) (maxL := 3) (rt := (some .int)) [(0, .ref (ra)), (1, .int (x)), (2, .int (y))] (by decide +kernel) rfl (Nat.le_of_ble_eq_true rfl) rfl ?_
  intro p e s m args below meth c A C hk htab hX
  have C : zC p s m args c cX5_blockAfter 3 wsX5_blockAfter RX5 D (zTy κ) A := C
  have hin5 : ∀ w ∈ wsX50, w ∈ wsX5_blockAfter := fun w h => List.mem_cons_of_mem _ (List.mem_append_left _ (List.mem_append_left _ (List.mem_append_left _ (List.mem_append_right _ h))))
  have hin4 : ∀ w ∈ wsX40, w ∈ wsX5_blockAfter := fun w h => List.mem_cons_of_mem _ (List.mem_append_left _ (List.mem_append_left _ (List.mem_append_right _ h)))
  have k16 : Cond.fieldLink RX5 16 "PeatRailway" "forecast" "LPeatRailway$State;" ∈ wsX5_blockAfter := by decide +kernel
  have k10 : Cond.fieldLink RX5 10 "PeatRailway" "current" "LPeatRailway$State;" ∈ wsX5_blockAfter := by decide +kernel
  have k166 : Cond.fieldLink RX5 166 "PeatRailway$State" "place" "[I" ∈ wsX5_blockAfter := by decide +kernel
  refine z_eq (ws' := SW κ Sf f ++ (SW κ Sa g ++ (RC ra (Sa 0) (Sf 0) h9 a9 b9 p9 o9 ++ []))) ?_ rfl rfl rfl rfl
  have hn1 := hv.n1
  have hn2 := hv.n2
  refine z_aload_n C dX5_blockAfter_0 0 rfl ?_
  refine z_iload_n C dX5_blockAfter_1 1 rfl ?_
  exact zx_callV C htab hk (aX_ok adK adV) hX (mX5_requireTrain_no l D κ adK adV Sa _ ra (Sf 0) h9 a9 b9 p9 o9 σ M (x) hls hr hv hx) gX5_blockAfter_X5_requireTrain rfl rfl rfl hdX5_requireTrain ⟨(Nat.le_of_ble_eq_true rfl), (Nat.le_of_ble_eq_true rfl)⟩ 13 rfl rfl (SW κ Sf f) List.perm_append_comm rfl (Nat.le_of_ble_eq_true rfl) dX5_blockAfter_2 ⟨(Nat.le_of_ble_eq_true rfl), (Nat.le_of_ble_eq_true rfl)⟩ (Nat.le_of_ble_eq_true rfl) (Nat.le_of_ble_eq_true rfl) (fun u _ => ⟨(), trivial, List.perm_append_comm⟩)
set_option maxRecDepth 100000 in
set_option maxHeartbeats 4000000 in
theorem mX5_blockAfter_rng (l : Launch) (D : va_G) (κ : Nat → ClassId) (adK adV : Nat → Nat) (Sf Sa : Nat → Nat) (f g : Nat → Nat → Nat) (ra h9 a9 b9 p9 o9 : Nat) (σ : Nat → Nat) (M : Nat) (b : Nat) (x : Int32) (hls : l.stackTraces = false) (hr : Rep g σ) (hv : Inv M σ) (hb : b < σ 2) (hx : inI x (nI 0) (nI 200) = false) : zX (aX adK adV) l yX5_blockAfter wsX5_blockAfter { frames := 6, cells := 1, slots := 6, locals := 103 } D (zTy κ) [.ref (ra), .int (nI b), .int (x)] (SW κ Sf f ++ (SW κ Sa g ++ (RC ra (Sa 0) (Sf 0) h9 a9 b9 p9 o9))) eIA (S := Unit) (fun _ => True) (fun _ => SW κ Sf f ++ (SW κ Sa g ++ (RC ra (Sa 0) (Sf 0) h9 a9 b9 p9 o9))) 1 6 := by
  refine zX_of (cc := cX5_blockAfter) (maxL := 3) (rt := (some .int)) [(0, .ref (ra)), (1, .int (nI b)), (2, .int (x))] (by decide +kernel) rfl (Nat.le_of_ble_eq_true rfl) rfl ?_
  intro p e s m args below meth c A C hk htab hX
  have C : zC p s m args c cX5_blockAfter 3 wsX5_blockAfter RX5 D (zTy κ) A := C
  have hin5 : ∀ w ∈ wsX50, w ∈ wsX5_blockAfter := fun w h => List.mem_cons_of_mem _ (List.mem_append_left _ (List.mem_append_left _ (List.mem_append_left _ (List.mem_append_right _ h))))
  have hin4 : ∀ w ∈ wsX40, w ∈ wsX5_blockAfter := fun w h => List.mem_cons_of_mem _ (List.mem_append_left _ (List.mem_append_left _ (List.mem_append_right _ h)))
  have k16 : Cond.fieldLink RX5 16 "PeatRailway" "forecast" "LPeatRailway$State;" ∈ wsX5_blockAfter := by decide +kernel
  have k10 : Cond.fieldLink RX5 10 "PeatRailway" "current" "LPeatRailway$State;" ∈ wsX5_blockAfter := by decide +kernel
  have k166 : Cond.fieldLink RX5 166 "PeatRailway$State" "place" "[I" ∈ wsX5_blockAfter := by decide +kernel
  refine z_eq (ws' := SW κ Sf f ++ (SW κ Sa g ++ (RC ra (Sa 0) (Sf 0) h9 a9 b9 p9 o9 ++ []))) ?_ rfl rfl rfl rfl
  have hn1 := hv.n1
  have hn2 := hv.n2
  refine z_aload_n C dX5_blockAfter_0 0 rfl ?_
  refine z_iload_n C dX5_blockAfter_1 1 rfl ?_
  refine z_callV C (mX5_requireTrain_ok l D κ Sa _ ra (Sf 0) h9 a9 b9 p9 o9 σ M b hr hv (by omega)) gX5_blockAfter_X5_requireTrain rfl rfl rfl hdX5_requireTrain ⟨Nat.le_of_ble_eq_true rfl, Nat.le_of_ble_eq_true rfl⟩ 13 rfl rfl (SW κ Sf f) (fun _ => SW κ Sf f ++ (SW κ Sa g ++ (RC ra (Sa 0) (Sf 0) h9 a9 b9 p9 o9 ++ []))) List.perm_append_comm (fun _ => List.perm_append_comm) rfl (Nat.le_of_ble_eq_true rfl) dX5_blockAfter_2 ⟨Nat.zero_le _, Nat.zero_le _⟩ (fun _ _ => ?_)
  refine z_iload_n C dX5_blockAfter_5 2 rfl ?_
  refine z_if_lt C 16 dX5_blockAfter_6 (by decide) (fun h1 => ?_) (fun h2 => ?_)
  · exact zx_throw C htab hk hls hX (E0 := eIA) (names := ["java/lang/RuntimeException", "java/lang/Exception"]) tf_IA tn_n (show Cond.classLink RX5 95 eIA ∈ wsX5_blockAfter from by decide +kernel) (show Cond.initialized eIA ∈ wsX5_blockAfter from by decide +kernel) (fun w h => List.mem_cons_of_mem _ (List.mem_append_left _ (List.mem_append_right _ h))) tb_IA tc_IA tg_IA 14 (by decide) rfl rfl dX5_blockAfter_16 dX5_blockAfter_19 dX5_blockAfter_20 dX5_blockAfter_22 dX5_blockAfter_25 (Nat.le_of_ble_eq_true rfl) (Nat.le_of_ble_eq_true rfl) (Nat.le_of_ble_eq_true rfl) (Nat.le_of_ble_eq_true rfl) (Nat.le_of_ble_eq_true rfl) (Nat.le_of_ble_eq_true rfl) (()) (trivial) (List.Perm.of_eq rfl)
  · refine z_iload_n C dX5_blockAfter_9 2 rfl ?_
    refine z_sipush (v := nI 200) C dX5_blockAfter_10 (by decide) ?_
    refine z_icmp_le C 26 dX5_blockAfter_13 (by decide) (fun q => absurd ((inI_n x h2 (Int32.not_lt.mpr q)).symm.trans hx) (by decide)) (fun _ => ?_)
    exact zx_throw C htab hk hls hX (E0 := eIA) (names := ["java/lang/RuntimeException", "java/lang/Exception"]) tf_IA tn_n (show Cond.classLink RX5 95 eIA ∈ wsX5_blockAfter from by decide +kernel) (show Cond.initialized eIA ∈ wsX5_blockAfter from by decide +kernel) (fun w h => List.mem_cons_of_mem _ (List.mem_append_left _ (List.mem_append_right _ h))) tb_IA tc_IA tg_IA 14 (by decide) rfl rfl dX5_blockAfter_16 dX5_blockAfter_19 dX5_blockAfter_20 dX5_blockAfter_22 dX5_blockAfter_25 (Nat.le_of_ble_eq_true rfl) (Nat.le_of_ble_eq_true rfl) (Nat.le_of_ble_eq_true rfl) (Nat.le_of_ble_eq_true rfl) (Nat.le_of_ble_eq_true rfl) (Nat.le_of_ble_eq_true rfl) (()) (trivial) (List.Perm.of_eq rfl)
set_option maxRecDepth 100000 in
set_option maxHeartbeats 4000000 in
theorem mX5_ticksUntilWait_ok (l : Launch) (D : va_G) (κ : Nat → ClassId) (Sf Sa : Nat → Nat) (f g : Nat → Nat → Nat) (ra h9 a9 b9 p9 o9 : Nat) (σ : Nat → Nat) (M : Nat) (b : Nat) (hr : Rep g σ) (hv : Inv M σ) (hb : b < σ 2) (hM : M + 2300 < 1073741824) : zM l yX5_ticksUntilWait wsX5_ticksUntilWait { frames := 4, cells := 0, slots := 0, locals := 92 } D (zTy κ) [.ref ra, .int (nI b)] (SW κ Sf f ++ (SW κ Sa g ++ RC ra (Sa 0) (Sf 0) h9 a9 b9 p9 o9)) (S := Nat → Nat → Nat) (fun _ => some (.int (tI (wtT σ b)))) (fun _ => True) (fun u => SW κ Sf u ++ (SW κ Sa g ++ RC ra (Sa 0) (Sf 0) h9 a9 b9 p9 o9)) 0 0 := by
  refine zM_of (cc := cX5_ticksUntilWait) (maxL := 3) (rt := (some .int)) [(0, .ref (ra)), (1, .int (nI b))] (by decide +kernel) rfl (Nat.le_of_ble_eq_true rfl) rfl ?_
  intro p e s m args below meth c A C hr9 hk hnm
  have C : zC p s m args c cX5_ticksUntilWait 3 wsX5_ticksUntilWait RX5 D (zTy κ) A := C
  have hin5 : ∀ w ∈ wsX50, w ∈ wsX5_ticksUntilWait := fun w h => List.mem_cons_of_mem _ (List.mem_append_left _ (List.mem_append_left _ (List.mem_append_right _ h)))
  have hin4 : ∀ w ∈ wsX40, w ∈ wsX5_ticksUntilWait := fun w h => List.mem_cons_of_mem _ (List.mem_append_left _ (List.mem_append_right _ h))
  have k16 : Cond.fieldLink RX5 16 "PeatRailway" "forecast" "LPeatRailway$State;" ∈ wsX5_ticksUntilWait := by decide +kernel
  have k10 : Cond.fieldLink RX5 10 "PeatRailway" "current" "LPeatRailway$State;" ∈ wsX5_ticksUntilWait := by decide +kernel
  have k181 : Cond.fieldLink RX5 181 "PeatRailway$State" "waits" "[I" ∈ wsX5_ticksUntilWait := by decide +kernel
  refine z_eq (ws' := SW κ Sf f ++ (SW κ Sa g ++ (RC ra (Sa 0) (Sf 0) h9 a9 b9 p9 o9 ++ []))) ?_ rfl rfl rfl rfl
  have hn1 := hv.n1
  have hn2 := hv.n2
  refine z_aload_n C dX5_ticksUntilWait_0 0 rfl ?_
  refine z_iload_n C dX5_ticksUntilWait_1 1 rfl ?_
  refine z_callV C (mX5_requireTrain_ok l D κ Sa _ ra (Sf 0) h9 a9 b9 p9 o9 σ M b hr hv (by omega)) gX5_ticksUntilWait_X5_requireTrain rfl rfl rfl hdX5_requireTrain ⟨Nat.le_of_ble_eq_true rfl, Nat.le_of_ble_eq_true rfl⟩ 13 rfl rfl (SW κ Sf f) (fun _ => SW κ Sf f ++ (SW κ Sa g ++ (RC ra (Sa 0) (Sf 0) h9 a9 b9 p9 o9 ++ []))) List.perm_append_comm (fun _ => List.perm_append_comm) rfl (Nat.le_of_ble_eq_true rfl) dX5_ticksUntilWait_2 ⟨Nat.zero_le _, Nat.zero_le _⟩ (fun _ _ => ?_)
  refine z_aload_n C dX5_ticksUntilWait_5 0 rfl ?_
  refine z_get C hin5 26 rfl rfl 1 (by decide) k16 rfl dX5_ticksUntilWait_6 ?_
  refine z_aload_n C dX5_ticksUntilWait_9 0 rfl ?_
  refine z_get C hin5 26 rfl rfl 0 (by decide) k10 rfl dX5_ticksUntilWait_10 ?_
  refine z_callV C (mX4_copyFrom l D κ Sf Sa f g) gX5_ticksUntilWait_X4_copyFrom rfl rfl rfl hdX4_copyFrom ⟨Nat.le_of_ble_eq_true rfl, Nat.le_of_ble_eq_true rfl⟩ 0 rfl rfl (RC ra (Sa 0) (Sf 0) h9 a9 b9 p9 o9 ++ []) (fun q => SW κ Sf (upA g 8 q) ++ (SW κ Sa g ++ (RC ra (Sa 0) (Sf 0) h9 a9 b9 p9 o9 ++ []))) (List.Perm.of_eq rfl) (fun _ => List.Perm.of_eq rfl) rfl (Nat.le_of_ble_eq_true rfl) dX5_ticksUntilWait_13 ⟨Nat.zero_le _, Nat.zero_le _⟩ (fun q hq => ?_)
  have hrF := Rep_cp hr hv hq
  refine z_iconst (v := nI 1) C dX5_ticksUntilWait_16 (by decide) ?_
  refine z_istore_n C [(2, .int (nI 1)), (0, .ref (ra)), (1, .int (nI b))] dX5_ticksUntilWait_17 (by decide) rfl ?_
  refine z_lv [1, 2, 0] rfl ?_
  refine z_loop (σ := Nat × (Nat → Nat) × (Nat → Nat → Nat)) (fun x => SW κ Sf x.2.2 ++ (SW κ Sa g ++ (RC ra (Sa 0) (Sf 0) h9 a9 b9 p9 o9 ++ []))) (fun x => [(0, .ref (ra)), (1, .int (nI b)), (2, .int (nI x.1))]) (fun x => 1 ≤ x.1 ∧ x.1 ≤ 201 ∧ Rep x.2.2 x.2.1 ∧ Inv (M + 11 * (x.1 - 1)) x.2.1 ∧ x.2.1 2 = σ 2 ∧ x.2.1 (65 + 5 * b + 4) = σ (65 + 5 * b + 4) ∧ wtL (σ (65 + 5 * b + 4)) b (201 - x.1) x.2.1 (x.1 - 1) = wtR σ b) (fun x => 201 - x.1) ((1, σ, upA g 8 q)) (⟨Nat.le_refl _, Nat.le_of_ble_eq_true rfl, hrF, hv, rfl, rfl, rfl⟩) rfl rfl ?_
  rintro ⟨n, τ, f1⟩ hI18 ih18
  dsimp only at hI18 ih18 ⊢
  obtain ⟨q1, q2, hr1, hv1, q5, q6, q7⟩ := hI18
  refine z_iload_n C dX5_ticksUntilWait_18 2 rfl ?_
  refine z_sipush (v := nI 200) C dX5_ticksUntilWait_19 (by decide) ?_
  refine zn_icmp_gt C 63 dX5_ticksUntilWait_22 (by decide) (by omega) (by omega) (fun h1 => ?_) (fun h2 => ?_)
  · refine z_iconst (v := (-1)) C dX5_ticksUntilWait_63 (by decide) ?_
    have hn9 : n = 201 := by omega
    subst hn9
    have hwt : wtR σ b = (τ, 200) := q7.symm
    exact z_iret C hr9 hk (f1) (congrArg (fun n => some (Value.int (tI n))) (show wtT σ b = 0 from by simp only [wtT]; rw [hwt, if_neg (by dsimp only; omega)])) (trivial) (List.Perm.of_eq rfl) dX5_ticksUntilWait_64 (Nat.le_refl _) (Nat.le_refl _)
  · refine z_aload_n C dX5_ticksUntilWait_25 0 rfl ?_
    refine z_get C hin5 26 rfl rfl 1 (by decide) k16 rfl dX5_ticksUntilWait_26 ?_
    refine z_iconst (v := nI 1) C dX5_ticksUntilWait_29 (by decide) ?_
    refine zc_callR C (mX4_pass l D κ Sf _ _ _ 1 hr1 hv1 (by omega)) gX5_ticksUntilWait_X4_pass rfl rfl rfl hdX4_pass ⟨Nat.le_of_ble_eq_true rfl, Nat.le_of_ble_eq_true rfl⟩ rfl (Nat.le_of_ble_eq_true rfl) dX5_ticksUntilWait_30 ⟨Nat.zero_le _, Nat.zero_le _⟩ (fun gp hgp => ?_)
    have hvp := psS_inv 1 τ hv1 (by omega)
    have h2p := psS_2 1 τ
    have hgo : wtL (σ (65 + 5 * b + 4)) b (201 - n) τ (n - 1) = wtL (σ (65 + 5 * b + 4)) b (200 - n) (tkS τ) (n - 1 + 1) := by
      rw [show 201 - n = 200 - n + 1 from by omega]
      exact if_pos q6
    have hmo : τ (65 + 5 * b + 4) ≤ psS 1 τ (65 + 5 * b + 4) := tkS_w hv1 (by omega) (by omega)
    have hbd1 := hvp.bd (65 + 5 * b + 4) (by omega) (by omega)
    have hbd2 := hv.bd (65 + 5 * b + 4) (by omega) (by omega)
    refine z_pop C dX5_ticksUntilWait_33 rfl ?_
    refine z_aload_n C dX5_ticksUntilWait_34 0 rfl ?_
    refine z_get C hin5 26 rfl rfl 1 (by decide) k16 rfl dX5_ticksUntilWait_35 ?_
    refine zs_get_waits C hin4 k181 dX5_ticksUntilWait_38 ?_
    refine z_iload_n C dX5_ticksUntilWait_41 1 rfl ?_
    refine zs_ald_waits C (x := (psS 1 τ) (65 + 5 * b + 4)) (by omega) (hgp.1.t15 (by omega)) dX5_ticksUntilWait_42 ?_
    refine z_aload_n C dX5_ticksUntilWait_43 0 rfl ?_
    refine z_get C hin5 26 rfl rfl 0 (by decide) k10 rfl dX5_ticksUntilWait_44 ?_
    refine zs2_get_waits C hin4 k181 dX5_ticksUntilWait_47 ?_
    refine z_iload_n C dX5_ticksUntilWait_50 1 rfl ?_
    refine z_iald C 24 0 rfl rfl (by omega) (by decide) dX5_ticksUntilWait_51 ?_
    rw [show nF (g 15) b = nI (σ (65 + 5 * b + 4)) from congrArg nI (hr.1.t15 (by omega))]
    refine zn_icmp_le C 57 dX5_ticksUntilWait_52 (by decide) (by omega) (by omega) (fun h3 => ?_) (fun h4 => ?_)
    · refine zn_iinc (n := 1) C [(2, .int (nI (n + 1))), (0, .ref (ra)), (1, .int (nI b))] dX5_ticksUntilWait_57 2 rfl (by decide) rfl ?_
      refine z_goto (tgt := 18) C dX5_ticksUntilWait_60 (by decide) ?_
      refine z_lv [1, 2, 0] rfl ?_
      exact ih18 (n + 1, psS 1 τ, gp) ⟨by dsimp only; omega, by dsimp only; omega, hgp, hvp.mono (by dsimp only; omega) (by dsimp only; omega), (psS_2 1 τ).trans q5, by dsimp only; omega, by dsimp only; rw [show 201 - (n + 1) = 200 - n from by omega, show n + 1 - 1 = n - 1 + 1 from by omega, ← q7, hgo]; rfl⟩ (by dsimp only; omega)
    · refine z_iload_n C dX5_ticksUntilWait_55 2 rfl ?_
      have hwt : wtR σ b = (psS 1 τ, n) := by
        rw [← q7, hgo, wtL_stop (show tkS τ (65 + 5 * b + 4) ≠ σ (65 + 5 * b + 4) from by have : psS 1 τ (65 + 5 * b + 4) = tkS τ (65 + 5 * b + 4) := rfl; omega), show n - 1 + 1 = n from by omega]
        rfl
      exact z_iret C hr9 hk (gp) (congrArg (fun n => some (Value.int (tI n))) (show wtT σ b = n + 1 from by simp only [wtT]; rw [hwt, if_pos (by dsimp only; omega)])) (trivial) (List.Perm.of_eq rfl) dX5_ticksUntilWait_56 (Nat.le_refl _) (Nat.le_refl _)
theorem hdX5_ticksUntilWait : yX5_ticksUntilWait.cls = RX5 ∧ yX5_ticksUntilWait.cls ≠ "java/lang/invoke/MethodHandle" ∧ yX5_ticksUntilWait.cls ≠ "java/lang/invoke/VarHandle" ∧ (parseMethodDescriptor yX5_ticksUntilWait.desc).map (fun d => d.parameters.length) = some 1 := by decide +kernel
set_option maxRecDepth 100000 in
set_option maxHeartbeats 4000000 in
theorem mX5_ticksUntilWait_no (l : Launch) (D : va_G) (κ : Nat → ClassId) (adK adV : Nat → Nat) (Sf Sa : Nat → Nat) (f g : Nat → Nat → Nat) (ra h9 a9 b9 p9 o9 : Nat) (σ : Nat → Nat) (M : Nat) (x : Int32) (hls : l.stackTraces = false) (hr : Rep g σ) (hv : Inv M σ) (hx : isB (σ 2) x = false) : zX (aX adK adV) l yX5_ticksUntilWait wsX5_ticksUntilWait { frames := 7, cells := 1, slots := 6, locals := 103 } D (zTy κ) [.ref (ra), .int (x)] (SW κ Sf f ++ (SW κ Sa g ++ (RC ra (Sa 0) (Sf 0) h9 a9 b9 p9 o9))) eIB (S := Unit) (fun _ => True) (fun _ => SW κ Sf f ++ (SW κ Sa g ++ (RC ra (Sa 0) (Sf 0) h9 a9 b9 p9 o9))) 1 6 := by
  refine zX_of (cc := cX5_ticksUntilWait) (maxL := 3) (rt := (some .int)) [(0, .ref (ra)), (1, .int (x))] (by decide +kernel) rfl (Nat.le_of_ble_eq_true rfl) rfl ?_
  intro p e s m args below meth c A C hk htab hX
  have C : zC p s m args c cX5_ticksUntilWait 3 wsX5_ticksUntilWait RX5 D (zTy κ) A := C
  have hin5 : ∀ w ∈ wsX50, w ∈ wsX5_ticksUntilWait := fun w h => List.mem_cons_of_mem _ (List.mem_append_left _ (List.mem_append_left _ (List.mem_append_right _ h)))
  have hin4 : ∀ w ∈ wsX40, w ∈ wsX5_ticksUntilWait := fun w h => List.mem_cons_of_mem _ (List.mem_append_left _ (List.mem_append_right _ h))
  have k16 : Cond.fieldLink RX5 16 "PeatRailway" "forecast" "LPeatRailway$State;" ∈ wsX5_ticksUntilWait := by decide +kernel
  have k10 : Cond.fieldLink RX5 10 "PeatRailway" "current" "LPeatRailway$State;" ∈ wsX5_ticksUntilWait := by decide +kernel
  have k181 : Cond.fieldLink RX5 181 "PeatRailway$State" "waits" "[I" ∈ wsX5_ticksUntilWait := by decide +kernel
  refine z_eq (ws' := SW κ Sf f ++ (SW κ Sa g ++ (RC ra (Sa 0) (Sf 0) h9 a9 b9 p9 o9 ++ []))) ?_ rfl rfl rfl rfl
  have hn1 := hv.n1
  have hn2 := hv.n2
  refine z_aload_n C dX5_ticksUntilWait_0 0 rfl ?_
  refine z_iload_n C dX5_ticksUntilWait_1 1 rfl ?_
  exact zx_callV C htab hk (aX_ok adK adV) hX (mX5_requireTrain_no l D κ adK adV Sa _ ra (Sf 0) h9 a9 b9 p9 o9 σ M (x) hls hr hv hx) gX5_ticksUntilWait_X5_requireTrain rfl rfl rfl hdX5_requireTrain ⟨(Nat.le_of_ble_eq_true rfl), (Nat.le_of_ble_eq_true rfl)⟩ 13 rfl rfl (SW κ Sf f) List.perm_append_comm rfl (Nat.le_of_ble_eq_true rfl) dX5_ticksUntilWait_2 ⟨(Nat.le_of_ble_eq_true rfl), (Nat.le_of_ble_eq_true rfl)⟩ (Nat.le_of_ble_eq_true rfl) (Nat.le_of_ble_eq_true rfl) (fun u _ => ⟨(), trivial, List.perm_append_comm⟩)
end X4
