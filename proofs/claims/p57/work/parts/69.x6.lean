section X6
theorem pm_6 {α : Type} {S R O W : List α} : (S ++ (R ++ (O ++ W))).Perm ((O ++ (W ++ S)) ++ R) := by
  classical
  exact List.perm_iff_count.mpr (fun x => by simp only [List.count_append]; omega)
section ACC
variable {M : Nat} {σ : Nat → Nat} {g : Nat → Nat → Nat}
theorem Sl_of {τ : Nat → Nat} (h : Sl σ) (h2 : τ 2 = σ 2) (hp : ∀ t, t < σ 2 → τ (65 + 5 * t + 2) = σ (65 + 5 * t + 2)) (hl : ∀ t, t < σ 2 → τ (5 + 6 * σ (65 + 5 * t + 2) + 5) = σ (5 + 6 * σ (65 + 5 * t + 2) + 5) ∨ τ (5 + 6 * σ (65 + 5 * t + 2) + 5) = 0) : Sl τ := by
  intro t ht
  rw [h2] at ht
  rw [hp t ht]
  rcases hl t ht with q | q
  · rw [q]; exact h t ht
  · exact q
theorem Inv.clr (h : Inv M σ) {b x : Nat} (hb : b < 10) (hx : x ≤ 1) : Inv M (upN σ (5 + 6 * b + 4) x) := by
  have h1 := h.n1
  have h2 := h.n2
  have hm := h.m
  exact ⟨h.1.up (by omega) (by omega) (fun t ht q => by omega), Sm_clr hb hx h.2.1, Sl_up h.2.1 h.2.2 (by omega) (fun t ht => by omega) (fun c hc => by omega)⟩
theorem Inv.dep (h : Inv M σ) {b x : Nat} (hb : b < 10) (hx : x ≤ 9) : Inv M (upN σ (5 + 6 * b + 1) x) := by
  have h1 := h.n1
  have h2 := h.n2
  have hm := h.m
  exact ⟨h.1.up (by omega) (by omega) (fun t ht q => by omega), Sm_dep hb hx h.2.1, Sl_up h.2.1 h.2.2 (by omega) (fun t ht => by omega) (fun c hc => by omega)⟩
theorem Inv.wag (h : Inv M σ) {a x : Nat} (ha : a < 5) (h1x : 1 ≤ x) (hx : x ≤ 12) : Inv M (upN σ (65 + 5 * a + 0) x) := by
  have h1 := h.n1
  have h2 := h.n2
  have hm := h.m
  exact ⟨h.1.up (by omega) (by omega) (fun t ht q => by omega), Sm_wag ha h1x hx h.2.1, Sl_up h.2.1 h.2.2 (by omega) (fun t ht => by omega) (fun c hc => by omega)⟩
theorem Inv.top (h : Inv M σ) {a x : Nat} (ha : a < 5) (h1x : 1 ≤ x) (hx : x ≤ 5) : Inv M (upN σ (65 + 5 * a + 1) x) := by
  have h1 := h.n1
  have h2 := h.n2
  have hm := h.m
  exact ⟨h.1.up (by omega) (by omega) (fun t ht q => by omega), Sm_top ha h1x hx h.2.1, Sl_up h.2.1 h.2.2 (by omega) (fun t ht => by omega) (fun c hc => by omega)⟩
theorem Inv.r34 (h : Inv M σ) {k x : Nat} (hk : k = 3 ∨ k = 4) : Inv M (upN σ k x) := by
  refine ⟨h.1.up34 hk, ?_, Sl_up h.2.1 h.2.2 (by omega) (fun t ht => by omega) (fun c hc => by omega)⟩
  rcases hk with rfl | rfl
  · exact Sm_3 h.2.1
  · exact Sm_4 h.2.1
theorem Inv.lost0 (h : Inv M σ) {b : Nat} (hb : b < 10) : Inv M (upN σ (5 + 6 * b + 5) 0) := by
  have h1 := h.n1
  have h2 := h.n2
  refine ⟨h.1.up (by omega) (Nat.zero_le _) (fun t ht q => by omega), Sm_lost hb (Nat.zero_le _) h.2.1, Sl_of h.2.2 (upN_n (by omega)) (fun t ht => upN_n (by omega)) (fun t ht => ?_)⟩
  rw [upN_if]
  split
  · exact Or.inr rfl
  · exact Or.inl rfl
theorem Rep.clr (h : Rep g σ) (hv : Inv M σ) {b x : Nat} (hb : b < 10) : Rep (up2 g 8 b x) (upN σ (5 + 6 * b + 4) x) := by
  have h1 := hv.n1
  have h2 := hv.n2
  exact h.of (h.1.clr h1 h2 hb) rfl (upN_n (by omega)) (upN_n (by omega)) (fun t ht => upN_n (by omega))
theorem Rep.dep (h : Rep g σ) (hv : Inv M σ) {b x : Nat} (hb : b < 10) : Rep (up2 g 6 b x) (upN σ (5 + 6 * b + 1) x) := by
  have h1 := hv.n1
  have h2 := hv.n2
  exact h.of (h.1.dep h1 h2 hb) rfl (upN_n (by omega)) (upN_n (by omega)) (fun t ht => upN_n (by omega))
theorem Rep.lost (h : Rep g σ) (hv : Inv M σ) {b x : Nat} (hb : b < 10) : Rep (up2 g 9 b x) (upN σ (5 + 6 * b + 5) x) := by
  have h1 := hv.n1
  have h2 := hv.n2
  exact h.of (h.1.lost h1 h2 hb) rfl (upN_n (by omega)) (upN_n (by omega)) (fun t ht => upN_n (by omega))
theorem Rep.wag (h : Rep g σ) (hv : Inv M σ) {a x : Nat} (ha : a < 5) : Rep (up2 g 13 a x) (upN σ (65 + 5 * a + 0) x) := by
  have h1 := hv.n1
  have h2 := hv.n2
  exact h.of (h.1.wag h1 h2 ha) rfl (upN_n (by omega)) (upN_n (by omega)) (fun t ht => upN_n (by omega))
theorem Rep.top (h : Rep g σ) (hv : Inv M σ) {a x : Nat} (ha : a < 5) : Rep (up2 g 14 a x) (upN σ (65 + 5 * a + 1) x) := by
  have h1 := hv.n1
  have h2 := hv.n2
  exact h.of (h.1.top h1 h2 ha) rfl (upN_n (by omega)) (upN_n (by omega)) (fun t ht => upN_n (by omega))
theorem Rep.rem (h : Rep g σ) (hv : Inv M σ) {x : Nat} : Rep (up2 g 3 0 x) (upN σ 3 x) :=
  h.of (h.1.rem hv.n1 hv.n2) rfl (upN_n (by omega)) (upN_n (by omega)) (fun t ht => upN_n (by omega))
theorem Rep.add (h : Rep g σ) (hv : Inv M σ) {x : Nat} : Rep (up2 g 4 0 x) (upN σ 4 x) :=
  h.of (h.1.add hv.n1 hv.n2) rfl (upN_n (by omega)) (upN_n (by omega)) (fun t ht => upN_n (by omega))
end ACC
/-- the world of a change -/
abbrev kW (κ : Nat → ClassId) (Sa Ha : Nat → Nat) (Hs : Nat → Nat → Nat) (hf : Nat → Option Nat) (ra f9 a9 b9 p9 o9 : Nat) (g : Nat → Nat → Nat) (nx ct : Nat) (gh : Nat → Nat → Nat → Nat) : va_W :=
  SW κ Sa g ++ (RC ra (Sa 0) f9 (Ha 0) a9 b9 p9 o9 ++ (HO κ Ha hf nx ct ++ hW κ Hs gh 10))
set_option maxRecDepth 100000 in
set_option maxHeartbeats 4000000 in
theorem mX5_advance_ok (l : Launch) (D : va_G) (κ : Nat → ClassId) (Sa Ha : Nat → Nat) (Hs : Nat → Nat → Nat) (hf : Nat → Option Nat) (ra f9 a9 b9 p9 o9 : Nat) (g : Nat → Nat → Nat) (nx ct : Nat) (gh : Nat → Nat → Nat → Nat) (σ : Nat → Nat) (M : Nat) (n : Nat) (hr : Rep g σ) (hv : Inv M σ) (hhf : ∀ j, j < 10 → hf j = some (Hs j 0)) (hnx : nx < 10) (hct : ct ≤ 10) (h1n : 1 ≤ n) (h2n : n ≤ 99) (hl : σ 0 + n ≤ 9999) (hM : M + 11 * n + 11 < 1073741824) : zM l yX5_advance wsX5_advance { frames := 4, cells := 0, slots := 0, locals := 92 } D (zTy κ) [.ref ra, .int (nI n)] (kW κ Sa Ha Hs hf ra f9 a9 b9 p9 o9 g nx ct gh) (S := (Nat → Nat → Nat) × (Nat → Nat → Nat)) (fun _ => some (.int (nI (psE n σ)))) (fun u => Rep u.1 σ ∧ Rep u.2 (psS n σ)) (fun u => kW κ Sa Ha Hs hf ra f9 a9 b9 p9 o9 u.2 (fwN nx) (mnN ct) (upS gh nx u.1)) 0 0 := by
  refine zM_of (cc := cX5_advance) (maxL := 2) (rt := (some .int)) [(0, .ref (ra)), (1, .int (nI n))] (by decide +kernel) rfl (Nat.le_of_ble_eq_true rfl) rfl ?_
  intro p e s m args below meth c A C hr9 hk hnm
  have C : zC p s m args c cX5_advance 2 wsX5_advance RX5 D (zTy κ) A := C
  have hin5 : ∀ w ∈ wsX50, w ∈ wsX5_advance := fun w h => List.mem_cons_of_mem _ (List.mem_append_left _ (List.mem_append_left _ (List.mem_append_left _ (List.mem_append_left _ (List.mem_append_right _ h)))))
  have hin4 : ∀ w ∈ wsX40, w ∈ wsX5_advance := fun w h => List.mem_cons_of_mem _ (List.mem_append_left _ (List.mem_append_left _ (List.mem_append_left _ (List.mem_append_right _ h))))
  have hin0 : ∀ w ∈ wsX00, w ∈ wsX5_advance := fun w h => List.mem_cons_of_mem _ (List.mem_append_left _ (List.mem_append_left _ (List.mem_append_right _ h)))
  have k10 : Cond.fieldLink RX5 10 "PeatRailway" "current" "LPeatRailway$State;" ∈ wsX5_advance := by decide +kernel
  have k116 : Cond.fieldLink RX5 116 "PeatRailway$State" "tick" "I" ∈ wsX5_advance := by decide +kernel
  have k22 : Cond.fieldLink RX5 22 "PeatRailway" "history" "LPeatRailway$History;" ∈ wsX5_advance := by decide +kernel
  refine z_eq (ws' := SW κ Sa g ++ (RC ra (Sa 0) f9 (Ha 0) a9 b9 p9 o9 ++ (HO κ Ha hf nx ct ++ hW κ Hs gh 10))) ?_ rfl rfl rfl rfl
  have hn1 := hv.n1
  have hn2 := hv.n2
  refine z_iload_n C dX5_advance_0 1 rfl ?_
  refine z_iconst (v := nI 1) C dX5_advance_1 (by decide) ?_
  refine zn_icmp_lt C 11 dX5_advance_2 (by decide) (by omega) (by omega) (fun h1 => ?_) (fun h2 => ?_)
  · exfalso; omega
  · refine z_iload_n C dX5_advance_5 1 rfl ?_
    refine z_bipush (v := nI 99) C dX5_advance_6 (by decide) ?_
    refine zn_icmp_le C 21 dX5_advance_8 (by decide) (by omega) (by omega) (fun h3 => ?_) (fun h4 => ?_)
    · refine z_iload_n C dX5_advance_21 1 rfl ?_
      refine z_sipush (v := nI 9999) C dX5_advance_22 (by decide) ?_
      refine z_aload_n C dX5_advance_25 0 rfl ?_
      refine z_get C hin5 13 rfl rfl 0 (by decide) k10 rfl dX5_advance_26 ?_
      refine zs_get_tick C hin4 (x := σ 0) k116 dX5_advance_29 hr.1.s0 ?_
      refine zn_isub C dX5_advance_32 (by omega) ?_
      refine zn_icmp_le C 46 dX5_advance_33 (by decide) (by omega) (by omega) (fun h5 => ?_) (fun h6 => ?_)
      · refine z_aload_n C dX5_advance_46 0 rfl ?_
        refine z_get C hin5 13 rfl rfl 2 (by decide) k22 rfl dX5_advance_47 ?_
        refine z_aload_n C dX5_advance_50 0 rfl ?_
        refine z_get C hin5 13 rfl rfl 0 (by decide) k10 rfl dX5_advance_51 ?_
        refine z_callV C (mX0_record l D κ Ha Sa Hs gh hf nx ct g hhf hnx hct) gX5_advance_X0_record rfl rfl rfl hdX0_record ⟨Nat.le_of_ble_eq_true rfl, Nat.le_of_ble_eq_true rfl⟩ 0 rfl rfl (RC ra (Sa 0) f9 (Ha 0) a9 b9 p9 o9) (fun q => SW κ Sa g ++ (RC ra (Sa 0) f9 (Ha 0) a9 b9 p9 o9 ++ (HO κ Ha hf (fwN nx) (mnN ct) ++ hW κ Hs (upS gh nx (upA g 8 q)) 10))) pm_6 (fun _ => pm_6.symm) rfl (Nat.le_of_ble_eq_true rfl) dX5_advance_54 ⟨Nat.zero_le _, Nat.zero_le _⟩ (fun q hq => ?_)
        have hrq := Rep_cp hr hv hq
        refine z_aload_n C dX5_advance_57 0 rfl ?_
        refine z_get C hin5 13 rfl rfl 0 (by decide) k10 rfl dX5_advance_58 ?_
        refine z_iload_n C dX5_advance_61 1 rfl ?_
        refine zc_callR C (mX4_pass l D κ Sa _ _ _ n hr hv (by omega)) gX5_advance_X4_pass rfl rfl rfl hdX4_pass ⟨Nat.le_of_ble_eq_true rfl, Nat.le_of_ble_eq_true rfl⟩ rfl (Nat.le_of_ble_eq_true rfl) dX5_advance_62 ⟨Nat.zero_le _, Nat.zero_le _⟩ (fun gp hgp => ?_)
        exact z_iret C hr9 hk ((upA g 8 q, gp)) (rfl) (⟨hrq, hgp⟩) (List.Perm.of_eq rfl) dX5_advance_65 (Nat.le_refl _) (Nat.le_refl _)
      · exfalso; omega
    · exfalso; omega
theorem hdX5_advance : yX5_advance.cls = RX5 ∧ yX5_advance.cls ≠ "java/lang/invoke/MethodHandle" ∧ yX5_advance.cls ≠ "java/lang/invoke/VarHandle" ∧ (parseMethodDescriptor yX5_advance.desc).map (fun d => d.parameters.length) = some 1 := by decide +kernel
set_option maxRecDepth 100000 in
set_option maxHeartbeats 4000000 in
theorem mX5_advance_no (l : Launch) (D : va_G) (κ : Nat → ClassId) (adK adV : Nat → Nat) (Sa : Nat → Nat) (g : Nat → Nat → Nat) (ra f9 h9 a9 b9 p9 o9 : Nat) (σ : Nat → Nat) (M : Nat) (x : Int32) (hls : l.stackTraces = false) (hr : Rep g σ) (hv : Inv M σ) (hx : inI x (nI 1) (nI 99) = false) : zX (aX adK adV) l yX5_advance wsX5_advance { frames := 6, cells := 1, slots := 6, locals := 103 } D (zTy κ) [.ref (ra), .int (x)] (SW κ Sa g ++ (RC ra (Sa 0) f9 h9 a9 b9 p9 o9)) eIA (S := Unit) (fun _ => True) (fun _ => SW κ Sa g ++ (RC ra (Sa 0) f9 h9 a9 b9 p9 o9)) 1 6 := by
  refine zX_of (cc := cX5_advance) (maxL := 2) (rt := (some .int)) [(0, .ref (ra)), (1, .int (x))] (by decide +kernel) rfl (Nat.le_of_ble_eq_true rfl) rfl ?_
  intro p e s m args below meth c A C hk htab hX
  have C : zC p s m args c cX5_advance 2 wsX5_advance RX5 D (zTy κ) A := C
  have hin5 : ∀ w ∈ wsX50, w ∈ wsX5_advance := fun w h => List.mem_cons_of_mem _ (List.mem_append_left _ (List.mem_append_left _ (List.mem_append_left _ (List.mem_append_left _ (List.mem_append_right _ h)))))
  have hin4 : ∀ w ∈ wsX40, w ∈ wsX5_advance := fun w h => List.mem_cons_of_mem _ (List.mem_append_left _ (List.mem_append_left _ (List.mem_append_left _ (List.mem_append_right _ h))))
  have hin0 : ∀ w ∈ wsX00, w ∈ wsX5_advance := fun w h => List.mem_cons_of_mem _ (List.mem_append_left _ (List.mem_append_left _ (List.mem_append_right _ h)))
  have k10 : Cond.fieldLink RX5 10 "PeatRailway" "current" "LPeatRailway$State;" ∈ wsX5_advance := by decide +kernel
  have k116 : Cond.fieldLink RX5 116 "PeatRailway$State" "tick" "I" ∈ wsX5_advance := by decide +kernel
  have k22 : Cond.fieldLink RX5 22 "PeatRailway" "history" "LPeatRailway$History;" ∈ wsX5_advance := by decide +kernel
  refine z_eq (ws' := SW κ Sa g ++ (RC ra (Sa 0) f9 h9 a9 b9 p9 o9 ++ [])) ?_ rfl rfl rfl rfl
  have hn1 := hv.n1
  have hn2 := hv.n2
  refine z_iload_n C dX5_advance_0 1 rfl ?_
  refine z_iconst (v := nI 1) C dX5_advance_1 (by decide) ?_
  refine z_icmp_lt C 11 dX5_advance_2 (by decide) (fun h1 => ?_) (fun h2 => ?_)
  · exact zx_throw C htab hk hls hX (E0 := eIA) (names := ["java/lang/RuntimeException", "java/lang/Exception"]) tf_IA tn_n (show Cond.classLink RX5 95 eIA ∈ wsX5_advance from by decide +kernel) (show Cond.initialized eIA ∈ wsX5_advance from by decide +kernel) (fun w h => List.mem_cons_of_mem _ (List.mem_append_left _ (List.mem_append_right _ h))) tb_IA tc_IA tg_IA 14 (by decide) rfl rfl dX5_advance_11 dX5_advance_14 dX5_advance_15 dX5_advance_17 dX5_advance_20 (Nat.le_of_ble_eq_true rfl) (Nat.le_of_ble_eq_true rfl) (Nat.le_of_ble_eq_true rfl) (Nat.le_of_ble_eq_true rfl) (Nat.le_of_ble_eq_true rfl) (Nat.le_of_ble_eq_true rfl) (()) (trivial) (List.Perm.of_eq rfl)
  · refine z_iload_n C dX5_advance_5 1 rfl ?_
    refine z_bipush (v := nI 99) C dX5_advance_6 (by decide) ?_
    refine z_icmp_le C 21 dX5_advance_8 (by decide) (fun q => absurd ((inI_n x h2 (Int32.not_lt.mpr q)).symm.trans hx) (by decide)) (fun _ => ?_)
    exact zx_throw C htab hk hls hX (E0 := eIA) (names := ["java/lang/RuntimeException", "java/lang/Exception"]) tf_IA tn_n (show Cond.classLink RX5 95 eIA ∈ wsX5_advance from by decide +kernel) (show Cond.initialized eIA ∈ wsX5_advance from by decide +kernel) (fun w h => List.mem_cons_of_mem _ (List.mem_append_left _ (List.mem_append_right _ h))) tb_IA tc_IA tg_IA 14 (by decide) rfl rfl dX5_advance_11 dX5_advance_14 dX5_advance_15 dX5_advance_17 dX5_advance_20 (Nat.le_of_ble_eq_true rfl) (Nat.le_of_ble_eq_true rfl) (Nat.le_of_ble_eq_true rfl) (Nat.le_of_ble_eq_true rfl) (Nat.le_of_ble_eq_true rfl) (Nat.le_of_ble_eq_true rfl) (()) (trivial) (List.Perm.of_eq rfl)
set_option maxRecDepth 100000 in
set_option maxHeartbeats 4000000 in
theorem mX5_advance_lim (l : Launch) (D : va_G) (κ : Nat → ClassId) (adK adV : Nat → Nat) (Sa : Nat → Nat) (g : Nat → Nat → Nat) (ra f9 h9 a9 b9 p9 o9 : Nat) (σ : Nat → Nat) (M : Nat) (n : Nat) (hls : l.stackTraces = false) (hr : Rep g σ) (hv : Inv M σ) (h1n : 1 ≤ n) (h2n : n ≤ 99) (h0 : σ 0 ≤ 9999) (hl : 9999 < σ 0 + n) : zX (aX adK adV) l yX5_advance wsX5_advance { frames := 6, cells := 1, slots := 6, locals := 103 } D (zTy κ) [.ref (ra), .int (nI n)] (SW κ Sa g ++ (RC ra (Sa 0) f9 h9 a9 b9 p9 o9)) eIS (S := Unit) (fun _ => True) (fun _ => SW κ Sa g ++ (RC ra (Sa 0) f9 h9 a9 b9 p9 o9)) 1 6 := by
  refine zX_of (cc := cX5_advance) (maxL := 2) (rt := (some .int)) [(0, .ref (ra)), (1, .int (nI n))] (by decide +kernel) rfl (Nat.le_of_ble_eq_true rfl) rfl ?_
  intro p e s m args below meth c A C hk htab hX
  have C : zC p s m args c cX5_advance 2 wsX5_advance RX5 D (zTy κ) A := C
  have hin5 : ∀ w ∈ wsX50, w ∈ wsX5_advance := fun w h => List.mem_cons_of_mem _ (List.mem_append_left _ (List.mem_append_left _ (List.mem_append_left _ (List.mem_append_left _ (List.mem_append_right _ h)))))
  have hin4 : ∀ w ∈ wsX40, w ∈ wsX5_advance := fun w h => List.mem_cons_of_mem _ (List.mem_append_left _ (List.mem_append_left _ (List.mem_append_left _ (List.mem_append_right _ h))))
  have hin0 : ∀ w ∈ wsX00, w ∈ wsX5_advance := fun w h => List.mem_cons_of_mem _ (List.mem_append_left _ (List.mem_append_left _ (List.mem_append_right _ h)))
  have k10 : Cond.fieldLink RX5 10 "PeatRailway" "current" "LPeatRailway$State;" ∈ wsX5_advance := by decide +kernel
  have k116 : Cond.fieldLink RX5 116 "PeatRailway$State" "tick" "I" ∈ wsX5_advance := by decide +kernel
  have k22 : Cond.fieldLink RX5 22 "PeatRailway" "history" "LPeatRailway$History;" ∈ wsX5_advance := by decide +kernel
  refine z_eq (ws' := SW κ Sa g ++ (RC ra (Sa 0) f9 h9 a9 b9 p9 o9 ++ [])) ?_ rfl rfl rfl rfl
  have hn1 := hv.n1
  have hn2 := hv.n2
  refine z_iload_n C dX5_advance_0 1 rfl ?_
  refine z_iconst (v := nI 1) C dX5_advance_1 (by decide) ?_
  refine zn_icmp_lt C 11 dX5_advance_2 (by decide) (by omega) (by omega) (fun h1 => ?_) (fun h2 => ?_)
  · exfalso; omega
  · refine z_iload_n C dX5_advance_5 1 rfl ?_
    refine z_bipush (v := nI 99) C dX5_advance_6 (by decide) ?_
    refine zn_icmp_le C 21 dX5_advance_8 (by decide) (by omega) (by omega) (fun h3 => ?_) (fun h4 => ?_)
    · refine z_iload_n C dX5_advance_21 1 rfl ?_
      refine z_sipush (v := nI 9999) C dX5_advance_22 (by decide) ?_
      refine z_aload_n C dX5_advance_25 0 rfl ?_
      refine z_get C hin5 13 rfl rfl 0 (by decide) k10 rfl dX5_advance_26 ?_
      refine zs_get_tick C hin4 (x := σ 0) k116 dX5_advance_29 hr.1.s0 ?_
      refine zn_isub C dX5_advance_32 (by omega) ?_
      refine zn_icmp_le C 46 dX5_advance_33 (by decide) (by omega) (by omega) (fun h5 => ?_) (fun h6 => ?_)
      · exfalso; omega
      · exact zx_throw C htab hk hls hX (E0 := eIS) (names := ["java/lang/RuntimeException", "java/lang/Exception"]) tf_IS tn_n (show Cond.classLink RX5 76 eIS ∈ wsX5_advance from by decide +kernel) (show Cond.initialized eIS ∈ wsX5_advance from by decide +kernel) (fun w h => List.mem_cons_of_mem _ (List.mem_append_right _ h)) tb_IS tc_IS tg_IS 15 (by decide) rfl rfl dX5_advance_36 dX5_advance_39 dX5_advance_40 dX5_advance_42 dX5_advance_45 (Nat.le_of_ble_eq_true rfl) (Nat.le_of_ble_eq_true rfl) (Nat.le_of_ble_eq_true rfl) (Nat.le_of_ble_eq_true rfl) (Nat.le_of_ble_eq_true rfl) (Nat.le_of_ble_eq_true rfl) (()) (trivial) (List.Perm.of_eq rfl)
    · exfalso; omega
set_option maxRecDepth 100000 in
set_option maxHeartbeats 4000000 in
theorem mX5_pull_ok (l : Launch) (D : va_G) (κ : Nat → ClassId) (Sa Ha : Nat → Nat) (Hs : Nat → Nat → Nat) (hf : Nat → Option Nat) (ra f9 a9 b9 p9 o9 : Nat) (g : Nat → Nat → Nat) (nx ct : Nat) (gh : Nat → Nat → Nat → Nat) (σ : Nat → Nat) (M : Nat) (b : Nat) (hr : Rep g σ) (hv : Inv M σ) (hhf : ∀ j, j < 10 → hf j = some (Hs j 0)) (hnx : nx < 10) (hct : ct ≤ 10) (hb : b < σ 1) (h0 : rsn σ b = 0) : zM l yX5_pull wsX5_pull { frames := 3, cells := 0, slots := 0, locals := 70 } D (zTy κ) [.ref ra, .int (nI b)] (kW κ Sa Ha Hs hf ra f9 a9 b9 p9 o9 g nx ct gh) (S := (Nat → Nat → Nat) × (Nat → Nat → Nat)) (fun _ => some (.int (nI (sumL (fun i => upN σ (5 + 6 * b + 4) 1 (5 + 6 * i + 4)) (upN σ (5 + 6 * b + 4) 1 1))))) (fun u => Rep u.1 σ ∧ Rep u.2 (upN σ (5 + 6 * b + 4) 1)) (fun u => kW κ Sa Ha Hs hf ra f9 a9 b9 p9 o9 u.2 (fwN nx) (mnN ct) (upS gh nx u.1)) 0 0 := by
  refine zM_of (cc := cX5_pull) (maxL := 2) (rt := (some .int)) [(0, .ref (ra)), (1, .int (nI b))] (by decide +kernel) rfl (Nat.le_of_ble_eq_true rfl) rfl ?_
  intro p e s m args below meth c A C hr9 hk hnm
  have C : zC p s m args c cX5_pull 2 wsX5_pull RX5 D (zTy κ) A := C
  have hin5 : ∀ w ∈ wsX50, w ∈ wsX5_pull := fun w h => List.mem_cons_of_mem _ (List.mem_append_left _ (List.mem_append_left _ (List.mem_append_left _ (List.mem_append_left _ (List.mem_append_right _ h)))))
  have hin4 : ∀ w ∈ wsX40, w ∈ wsX5_pull := fun w h => List.mem_cons_of_mem _ (List.mem_append_left _ (List.mem_append_left _ (List.mem_append_left _ (List.mem_append_right _ h))))
  have hin0 : ∀ w ∈ wsX00, w ∈ wsX5_pull := fun w h => List.mem_cons_of_mem _ (List.mem_append_left _ (List.mem_append_left _ (List.mem_append_right _ h)))
  have k10 : Cond.fieldLink RX5 10 "PeatRailway" "current" "LPeatRailway$State;" ∈ wsX5_pull := by decide +kernel
  have k22 : Cond.fieldLink RX5 22 "PeatRailway" "history" "LPeatRailway$History;" ∈ wsX5_pull := by decide +kernel
  have k135 : Cond.fieldLink RX5 135 "PeatRailway$State" "clear" "[Z" ∈ wsX5_pull := by decide +kernel
  refine z_eq (ws' := SW κ Sa g ++ (RC ra (Sa 0) f9 (Ha 0) a9 b9 p9 o9 ++ (HO κ Ha hf nx ct ++ hW κ Hs gh 10))) ?_ rfl rfl rfl rfl
  have hn1 := hv.n1
  have hn2 := hv.n2
  have hb9 := hv.blk hb
  have htr9 := hv.tr b
  have hrs9 := rsn_le σ b
  refine z_aload_n C dX5_pull_0 0 rfl ?_
  refine z_iload_n C dX5_pull_1 1 rfl ?_
  refine z_callV C (mX5_requireBlock_ok l D κ Sa _ ra f9 (Ha 0) a9 b9 p9 o9 σ M b hr hv (by omega)) gX5_pull_X5_requireBlock rfl rfl rfl hdX5_requireBlock ⟨Nat.le_of_ble_eq_true rfl, Nat.le_of_ble_eq_true rfl⟩ 13 rfl rfl (HO κ Ha hf nx ct ++ hW κ Hs gh 10) (fun _ => SW κ Sa g ++ (RC ra (Sa 0) f9 (Ha 0) a9 b9 p9 o9 ++ (HO κ Ha hf nx ct ++ hW κ Hs gh 10))) (List.Perm.of_eq rfl) (fun _ => List.Perm.of_eq rfl) rfl (Nat.le_of_ble_eq_true rfl) dX5_pull_2 ⟨Nat.zero_le _, Nat.zero_le _⟩ (fun _ _ => ?_)
  refine z_aload_n C dX5_pull_5 0 rfl ?_
  refine z_get C hin5 13 rfl rfl 0 (by decide) k10 rfl dX5_pull_6 ?_
  refine z_iload_n C dX5_pull_9 1 rfl ?_
  refine zc_call C (mX4_leverObstacle l D κ Sa _ _ _ b hr hv (by omega)) gX5_pull_X4_leverObstacle rfl rfl rfl hdX4_leverObstacle ⟨Nat.le_of_ble_eq_true rfl, Nat.le_of_ble_eq_true rfl⟩ rfl (Nat.le_of_ble_eq_true rfl) dX5_pull_10 ⟨Nat.zero_le _, Nat.zero_le _⟩ ?_
  refine zn_if_eq C 26 dX5_pull_13 (by decide) (by omega) (fun h1 => ?_) (fun h2 => ?_)
  · refine z_aload_n C dX5_pull_26 0 rfl ?_
    refine z_get C hin5 13 rfl rfl 2 (by decide) k22 rfl dX5_pull_27 ?_
    refine z_aload_n C dX5_pull_30 0 rfl ?_
    refine z_get C hin5 13 rfl rfl 0 (by decide) k10 rfl dX5_pull_31 ?_
    refine z_callV C (mX0_record l D κ Ha Sa Hs gh hf nx ct g hhf hnx hct) gX5_pull_X0_record rfl rfl rfl hdX0_record ⟨Nat.le_of_ble_eq_true rfl, Nat.le_of_ble_eq_true rfl⟩ 0 rfl rfl (RC ra (Sa 0) f9 (Ha 0) a9 b9 p9 o9) (fun q => SW κ Sa g ++ (RC ra (Sa 0) f9 (Ha 0) a9 b9 p9 o9 ++ (HO κ Ha hf (fwN nx) (mnN ct) ++ hW κ Hs (upS gh nx (upA g 8 q)) 10))) pm_6 (fun _ => pm_6.symm) rfl (Nat.le_of_ble_eq_true rfl) dX5_pull_34 ⟨Nat.zero_le _, Nat.zero_le _⟩ (fun q hq => ?_)
    have hrq := Rep_cp hr hv hq
    refine z_aload_n C dX5_pull_37 0 rfl ?_
    refine z_get C hin5 13 rfl rfl 0 (by decide) k10 rfl dX5_pull_38 ?_
    refine zs_get_clear C hin4 k135 dX5_pull_41 ?_
    refine z_iload_n C dX5_pull_44 1 rfl ?_
    refine z_iconst (v := nI 1) C dX5_pull_45 (by decide) ?_
    refine zs_ast_clear C (by omega) (by omega) dX5_pull_46 ?_
    have hr2 := hr.clr hv (b := b) (x := 1) (by omega)
    have hv2 := hv.clr (b := b) (x := 1) (by omega) (by omega)
    refine z_aload_n C dX5_pull_47 0 rfl ?_
    refine z_get C hin5 13 rfl rfl 0 (by decide) k10 rfl dX5_pull_48 ?_
    refine zc_call C (mX4_clearSignals l D κ Sa _ _ _  hr2 hv2 ) gX5_pull_X4_clearSignals rfl rfl rfl hdX4_clearSignals ⟨Nat.le_of_ble_eq_true rfl, Nat.le_of_ble_eq_true rfl⟩ rfl (Nat.le_of_ble_eq_true rfl) dX5_pull_51 ⟨Nat.zero_le _, Nat.zero_le _⟩ ?_
    exact z_iret C hr9 hk ((upA g 8 q, up2 g 8 b 1)) (rfl) (⟨hrq, hr2⟩) (List.Perm.of_eq rfl) dX5_pull_54 (Nat.le_refl _) (Nat.le_refl _)
  · exfalso; omega
theorem hdX5_pull : yX5_pull.cls = RX5 ∧ yX5_pull.cls ≠ "java/lang/invoke/MethodHandle" ∧ yX5_pull.cls ≠ "java/lang/invoke/VarHandle" ∧ (parseMethodDescriptor yX5_pull.desc).map (fun d => d.parameters.length) = some 1 := by decide +kernel
set_option maxRecDepth 100000 in
set_option maxHeartbeats 4000000 in
theorem mX5_setDanger_ok (l : Launch) (D : va_G) (κ : Nat → ClassId) (Sa Ha : Nat → Nat) (Hs : Nat → Nat → Nat) (hf : Nat → Option Nat) (ra f9 a9 b9 p9 o9 : Nat) (g : Nat → Nat → Nat) (nx ct : Nat) (gh : Nat → Nat → Nat → Nat) (σ : Nat → Nat) (M : Nat) (b : Nat) (hr : Rep g σ) (hv : Inv M σ) (hhf : ∀ j, j < 10 → hf j = some (Hs j 0)) (hnx : nx < 10) (hct : ct ≤ 10) (hb : b < σ 1) (h0 : 0 < σ (5 + 6 * b + 4)) : zM l yX5_setDanger wsX5_setDanger { frames := 3, cells := 0, slots := 0, locals := 70 } D (zTy κ) [.ref ra, .int (nI b)] (kW κ Sa Ha Hs hf ra f9 a9 b9 p9 o9 g nx ct gh) (S := (Nat → Nat → Nat) × (Nat → Nat → Nat)) (fun _ => some (.int (nI (sumL (fun i => upN σ (5 + 6 * b + 4) 0 (5 + 6 * i + 4)) (upN σ (5 + 6 * b + 4) 0 1))))) (fun u => Rep u.1 σ ∧ Rep u.2 (upN σ (5 + 6 * b + 4) 0)) (fun u => kW κ Sa Ha Hs hf ra f9 a9 b9 p9 o9 u.2 (fwN nx) (mnN ct) (upS gh nx u.1)) 0 0 := by
  refine zM_of (cc := cX5_setDanger) (maxL := 2) (rt := (some .int)) [(0, .ref (ra)), (1, .int (nI b))] (by decide +kernel) rfl (Nat.le_of_ble_eq_true rfl) rfl ?_
  intro p e s m args below meth c A C hr9 hk hnm
  have C : zC p s m args c cX5_setDanger 2 wsX5_setDanger RX5 D (zTy κ) A := C
  have hin5 : ∀ w ∈ wsX50, w ∈ wsX5_setDanger := fun w h => List.mem_cons_of_mem _ (List.mem_append_left _ (List.mem_append_left _ (List.mem_append_left _ (List.mem_append_left _ (List.mem_append_right _ h)))))
  have hin4 : ∀ w ∈ wsX40, w ∈ wsX5_setDanger := fun w h => List.mem_cons_of_mem _ (List.mem_append_left _ (List.mem_append_left _ (List.mem_append_left _ (List.mem_append_right _ h))))
  have hin0 : ∀ w ∈ wsX00, w ∈ wsX5_setDanger := fun w h => List.mem_cons_of_mem _ (List.mem_append_left _ (List.mem_append_left _ (List.mem_append_right _ h)))
  have k10 : Cond.fieldLink RX5 10 "PeatRailway" "current" "LPeatRailway$State;" ∈ wsX5_setDanger := by decide +kernel
  have k135 : Cond.fieldLink RX5 135 "PeatRailway$State" "clear" "[Z" ∈ wsX5_setDanger := by decide +kernel
  have k22 : Cond.fieldLink RX5 22 "PeatRailway" "history" "LPeatRailway$History;" ∈ wsX5_setDanger := by decide +kernel
  refine z_eq (ws' := SW κ Sa g ++ (RC ra (Sa 0) f9 (Ha 0) a9 b9 p9 o9 ++ (HO κ Ha hf nx ct ++ hW κ Hs gh 10))) ?_ rfl rfl rfl rfl
  have hn1 := hv.n1
  have hn2 := hv.n2
  have hb9 := hv.blk hb
  have htr9 := hv.tr b
  refine z_aload_n C dX5_setDanger_0 0 rfl ?_
  refine z_iload_n C dX5_setDanger_1 1 rfl ?_
  refine z_callV C (mX5_requireBlock_ok l D κ Sa _ ra f9 (Ha 0) a9 b9 p9 o9 σ M b hr hv (by omega)) gX5_setDanger_X5_requireBlock rfl rfl rfl hdX5_requireBlock ⟨Nat.le_of_ble_eq_true rfl, Nat.le_of_ble_eq_true rfl⟩ 13 rfl rfl (HO κ Ha hf nx ct ++ hW κ Hs gh 10) (fun _ => SW κ Sa g ++ (RC ra (Sa 0) f9 (Ha 0) a9 b9 p9 o9 ++ (HO κ Ha hf nx ct ++ hW κ Hs gh 10))) (List.Perm.of_eq rfl) (fun _ => List.Perm.of_eq rfl) rfl (Nat.le_of_ble_eq_true rfl) dX5_setDanger_2 ⟨Nat.zero_le _, Nat.zero_le _⟩ (fun _ _ => ?_)
  refine z_aload_n C dX5_setDanger_5 0 rfl ?_
  refine z_get C hin5 13 rfl rfl 0 (by decide) k10 rfl dX5_setDanger_6 ?_
  refine zs_get_clear C hin4 k135 dX5_setDanger_9 ?_
  refine z_iload_n C dX5_setDanger_12 1 rfl ?_
  refine zs_ald_clear C (x := σ (5 + 6 * b + 4)) (by omega) (hr.1.b8 (by omega)) dX5_setDanger_13 ?_
  refine zn_if_ne C 27 dX5_setDanger_14 (by decide) (by omega) (fun h1 => ?_) (fun h2 => ?_)
  · refine z_aload_n C dX5_setDanger_27 0 rfl ?_
    refine z_get C hin5 13 rfl rfl 2 (by decide) k22 rfl dX5_setDanger_28 ?_
    refine z_aload_n C dX5_setDanger_31 0 rfl ?_
    refine z_get C hin5 13 rfl rfl 0 (by decide) k10 rfl dX5_setDanger_32 ?_
    refine z_callV C (mX0_record l D κ Ha Sa Hs gh hf nx ct g hhf hnx hct) gX5_setDanger_X0_record rfl rfl rfl hdX0_record ⟨Nat.le_of_ble_eq_true rfl, Nat.le_of_ble_eq_true rfl⟩ 0 rfl rfl (RC ra (Sa 0) f9 (Ha 0) a9 b9 p9 o9) (fun q => SW κ Sa g ++ (RC ra (Sa 0) f9 (Ha 0) a9 b9 p9 o9 ++ (HO κ Ha hf (fwN nx) (mnN ct) ++ hW κ Hs (upS gh nx (upA g 8 q)) 10))) pm_6 (fun _ => pm_6.symm) rfl (Nat.le_of_ble_eq_true rfl) dX5_setDanger_35 ⟨Nat.zero_le _, Nat.zero_le _⟩ (fun q hq => ?_)
    have hrq := Rep_cp hr hv hq
    refine z_aload_n C dX5_setDanger_38 0 rfl ?_
    refine z_get C hin5 13 rfl rfl 0 (by decide) k10 rfl dX5_setDanger_39 ?_
    refine zs_get_clear C hin4 k135 dX5_setDanger_42 ?_
    refine z_iload_n C dX5_setDanger_45 1 rfl ?_
    refine z_iconst (v := nI 0) C dX5_setDanger_46 (by decide) ?_
    refine zs_ast_clear C (by omega) (by omega) dX5_setDanger_47 ?_
    have hr2 := hr.clr hv (b := b) (x := 0) (by omega)
    have hv2 := hv.clr (b := b) (x := 0) (by omega) (by omega)
    refine z_aload_n C dX5_setDanger_48 0 rfl ?_
    refine z_get C hin5 13 rfl rfl 0 (by decide) k10 rfl dX5_setDanger_49 ?_
    refine zc_call C (mX4_clearSignals l D κ Sa _ _ _  hr2 hv2 ) gX5_setDanger_X4_clearSignals rfl rfl rfl hdX4_clearSignals ⟨Nat.le_of_ble_eq_true rfl, Nat.le_of_ble_eq_true rfl⟩ rfl (Nat.le_of_ble_eq_true rfl) dX5_setDanger_52 ⟨Nat.zero_le _, Nat.zero_le _⟩ ?_
    exact z_iret C hr9 hk ((upA g 8 q, up2 g 8 b 0)) (rfl) (⟨hrq, hr2⟩) (List.Perm.of_eq rfl) dX5_setDanger_55 (Nat.le_refl _) (Nat.le_refl _)
  · exfalso; omega
theorem hdX5_setDanger : yX5_setDanger.cls = RX5 ∧ yX5_setDanger.cls ≠ "java/lang/invoke/MethodHandle" ∧ yX5_setDanger.cls ≠ "java/lang/invoke/VarHandle" ∧ (parseMethodDescriptor yX5_setDanger.desc).map (fun d => d.parameters.length) = some 1 := by decide +kernel
set_option maxRecDepth 100000 in
set_option maxHeartbeats 4000000 in
theorem mX5_repair_ok (l : Launch) (D : va_G) (κ : Nat → ClassId) (Sa Ha : Nat → Nat) (Hs : Nat → Nat → Nat) (hf : Nat → Option Nat) (ra f9 a9 b9 p9 o9 : Nat) (g : Nat → Nat → Nat) (nx ct : Nat) (gh : Nat → Nat → Nat → Nat) (σ : Nat → Nat) (M : Nat) (b : Nat) (hr : Rep g σ) (hv : Inv M σ) (hhf : ∀ j, j < 10 → hf j = some (Hs j 0)) (hnx : nx < 10) (hct : ct ≤ 10) (hb : b < σ 1) (h0 : trAt σ b = 0) : zM l yX5_repair wsX5_repair { frames := 3, cells := 0, slots := 0, locals := 70 } D (zTy κ) [.ref ra, .int (nI b)] (kW κ Sa Ha Hs hf ra f9 a9 b9 p9 o9 g nx ct gh) (S := (Nat → Nat → Nat) × (Nat → Nat → Nat)) (fun _ => some (.int (nI (σ (5 + 6 * b + 1))))) (fun u => Rep u.1 σ ∧ Rep u.2 (upN σ (5 + 6 * b + 1) 0)) (fun u => kW κ Sa Ha Hs hf ra f9 a9 b9 p9 o9 u.2 (fwN nx) (mnN ct) (upS gh nx u.1)) 0 0 := by
  refine zM_of (cc := cX5_repair) (maxL := 3) (rt := (some .int)) [(0, .ref (ra)), (1, .int (nI b))] (by decide +kernel) rfl (Nat.le_of_ble_eq_true rfl) rfl ?_
  intro p e s m args below meth c A C hr9 hk hnm
  have C : zC p s m args c cX5_repair 3 wsX5_repair RX5 D (zTy κ) A := C
  have hin5 : ∀ w ∈ wsX50, w ∈ wsX5_repair := fun w h => List.mem_cons_of_mem _ (List.mem_append_left _ (List.mem_append_left _ (List.mem_append_left _ (List.mem_append_left _ (List.mem_append_right _ h)))))
  have hin4 : ∀ w ∈ wsX40, w ∈ wsX5_repair := fun w h => List.mem_cons_of_mem _ (List.mem_append_left _ (List.mem_append_left _ (List.mem_append_left _ (List.mem_append_right _ h))))
  have hin0 : ∀ w ∈ wsX00, w ∈ wsX5_repair := fun w h => List.mem_cons_of_mem _ (List.mem_append_left _ (List.mem_append_left _ (List.mem_append_right _ h)))
  have k10 : Cond.fieldLink RX5 10 "PeatRailway" "current" "LPeatRailway$State;" ∈ wsX5_repair := by decide +kernel
  have k139 : Cond.fieldLink RX5 139 "PeatRailway$State" "occupant" "[I" ∈ wsX5_repair := by decide +kernel
  have k22 : Cond.fieldLink RX5 22 "PeatRailway" "history" "LPeatRailway$History;" ∈ wsX5_repair := by decide +kernel
  have k125 : Cond.fieldLink RX5 125 "PeatRailway$State" "depth" "[I" ∈ wsX5_repair := by decide +kernel
  refine z_eq (ws' := SW κ Sa g ++ (RC ra (Sa 0) f9 (Ha 0) a9 b9 p9 o9 ++ (HO κ Ha hf nx ct ++ hW κ Hs gh 10))) ?_ rfl rfl rfl rfl
  have hn1 := hv.n1
  have hn2 := hv.n2
  have hb9 := hv.blk hb
  have htr9 := hv.tr b
  refine z_aload_n C dX5_repair_0 0 rfl ?_
  refine z_iload_n C dX5_repair_1 1 rfl ?_
  refine z_callV C (mX5_requireBlock_ok l D κ Sa _ ra f9 (Ha 0) a9 b9 p9 o9 σ M b hr hv (by omega)) gX5_repair_X5_requireBlock rfl rfl rfl hdX5_requireBlock ⟨Nat.le_of_ble_eq_true rfl, Nat.le_of_ble_eq_true rfl⟩ 13 rfl rfl (HO κ Ha hf nx ct ++ hW κ Hs gh 10) (fun _ => SW κ Sa g ++ (RC ra (Sa 0) f9 (Ha 0) a9 b9 p9 o9 ++ (HO κ Ha hf nx ct ++ hW κ Hs gh 10))) (List.Perm.of_eq rfl) (fun _ => List.Perm.of_eq rfl) rfl (Nat.le_of_ble_eq_true rfl) dX5_repair_2 ⟨Nat.zero_le _, Nat.zero_le _⟩ (fun _ _ => ?_)
  refine z_aload_n C dX5_repair_5 0 rfl ?_
  refine z_get C hin5 13 rfl rfl 0 (by decide) k10 rfl dX5_repair_6 ?_
  refine zs_get_occupant C hin4 k139 dX5_repair_9 ?_
  refine z_iload_n C dX5_repair_12 1 rfl ?_
  refine zs_ald_occupant C (x := trAt σ b) (by omega) (hr.2 _ (by omega)) dX5_repair_13 ?_
  refine z_iconst (v := (-1)) C dX5_repair_14 (by decide) ?_
  refine zt_icmp_eq C 28 dX5_repair_15 (by decide) (by omega) (fun h1 => ?_) (fun h2 => ?_)
  · refine z_aload_n C dX5_repair_28 0 rfl ?_
    refine z_get C hin5 13 rfl rfl 2 (by decide) k22 rfl dX5_repair_29 ?_
    refine z_aload_n C dX5_repair_32 0 rfl ?_
    refine z_get C hin5 13 rfl rfl 0 (by decide) k10 rfl dX5_repair_33 ?_
    refine z_callV C (mX0_record l D κ Ha Sa Hs gh hf nx ct g hhf hnx hct) gX5_repair_X0_record rfl rfl rfl hdX0_record ⟨Nat.le_of_ble_eq_true rfl, Nat.le_of_ble_eq_true rfl⟩ 0 rfl rfl (RC ra (Sa 0) f9 (Ha 0) a9 b9 p9 o9) (fun q => SW κ Sa g ++ (RC ra (Sa 0) f9 (Ha 0) a9 b9 p9 o9 ++ (HO κ Ha hf (fwN nx) (mnN ct) ++ hW κ Hs (upS gh nx (upA g 8 q)) 10))) pm_6 (fun _ => pm_6.symm) rfl (Nat.le_of_ble_eq_true rfl) dX5_repair_36 ⟨Nat.zero_le _, Nat.zero_le _⟩ (fun q hq => ?_)
    have hrq := Rep_cp hr hv hq
    refine z_aload_n C dX5_repair_39 0 rfl ?_
    refine z_get C hin5 13 rfl rfl 0 (by decide) k10 rfl dX5_repair_40 ?_
    refine zs_get_depth C hin4 k125 dX5_repair_43 ?_
    refine z_iload_n C dX5_repair_46 1 rfl ?_
    refine zs_ald_depth C (x := σ (5 + 6 * b + 1)) (by omega) (hr.1.b6 (by omega)) dX5_repair_47 ?_
    refine z_istore_n C [(2, .int (nI (σ (5 + 6 * b + 1)))), (0, .ref (ra)), (1, .int (nI b))] dX5_repair_48 (by decide) rfl ?_
    refine z_aload_n C dX5_repair_49 1 rfl ?_
    refine z_get C hin5 13 rfl rfl 0 (by decide) k10 rfl dX5_repair_50 ?_
    refine zs_get_depth C hin4 k125 dX5_repair_53 ?_
    refine z_iload_n C dX5_repair_56 2 rfl ?_
    refine z_iconst (v := nI 0) C dX5_repair_57 (by decide) ?_
    refine zs_ast_depth C (by omega) dX5_repair_58 ?_
    have hr2 := hr.dep hv (b := b) (x := 0) (by omega)
    refine z_iload_n C dX5_repair_59 0 rfl ?_
    exact z_iret C hr9 hk ((upA g 8 q, up2 g 6 b 0)) (rfl) (⟨hrq, hr2⟩) (List.Perm.of_eq rfl) dX5_repair_60 (Nat.le_refl _) (Nat.le_refl _)
  · exfalso; omega
theorem hdX5_repair : yX5_repair.cls = RX5 ∧ yX5_repair.cls ≠ "java/lang/invoke/MethodHandle" ∧ yX5_repair.cls ≠ "java/lang/invoke/VarHandle" ∧ (parseMethodDescriptor yX5_repair.desc).map (fun d => d.parameters.length) = some 1 := by decide +kernel
set_option maxRecDepth 100000 in
set_option maxHeartbeats 4000000 in
theorem mX5_removeWagons_ok (l : Launch) (D : va_G) (κ : Nat → ClassId) (Sa Ha : Nat → Nat) (Hs : Nat → Nat → Nat) (hf : Nat → Option Nat) (ra f9 a9 b9 p9 o9 : Nat) (g : Nat → Nat → Nat) (nx ct : Nat) (gh : Nat → Nat → Nat → Nat) (σ : Nat → Nat) (M : Nat) (b : Nat) (hr : Rep g σ) (hv : Inv M σ) (hhf : ∀ j, j < 10 → hf j = some (Hs j 0)) (hnx : nx < 10) (hct : ct ≤ 10) (hb : b < σ 1) : zM l yX5_removeWagons wsX5_removeWagons { frames := 3, cells := 0, slots := 0, locals := 70 } D (zTy κ) [.ref ra, .int (nI b)] (kW κ Sa Ha Hs hf ra f9 a9 b9 p9 o9 g nx ct gh) (S := (Nat → Nat → Nat) × (Nat → Nat → Nat)) (fun _ => some (.int (nI (σ (5 + 6 * b + 5))))) (fun u => Rep u.1 σ ∧ Rep u.2 (upN (upN σ (5 + 6 * b + 5) 0) 3 (σ 3 + σ (5 + 6 * b + 5)))) (fun u => kW κ Sa Ha Hs hf ra f9 a9 b9 p9 o9 u.2 (fwN nx) (mnN ct) (upS gh nx u.1)) 0 0 := by
  refine zM_of (cc := cX5_removeWagons) (maxL := 3) (rt := (some .int)) [(0, .ref (ra)), (1, .int (nI b))] (by decide +kernel) rfl (Nat.le_of_ble_eq_true rfl) rfl ?_
  intro p e s m args below meth c A C hr9 hk hnm
  have C : zC p s m args c cX5_removeWagons 3 wsX5_removeWagons RX5 D (zTy κ) A := C
  have hin5 : ∀ w ∈ wsX50, w ∈ wsX5_removeWagons := fun w h => List.mem_cons_of_mem _ (List.mem_append_left _ (List.mem_append_left _ (List.mem_append_left _ (List.mem_append_right _ h))))
  have hin4 : ∀ w ∈ wsX40, w ∈ wsX5_removeWagons := fun w h => List.mem_cons_of_mem _ (List.mem_append_left _ (List.mem_append_left _ (List.mem_append_right _ h)))
  have hin0 : ∀ w ∈ wsX00, w ∈ wsX5_removeWagons := fun w h => List.mem_cons_of_mem _ (List.mem_append_left _ (List.mem_append_right _ h))
  have k22 : Cond.fieldLink RX5 22 "PeatRailway" "history" "LPeatRailway$History;" ∈ wsX5_removeWagons := by decide +kernel
  have k10 : Cond.fieldLink RX5 10 "PeatRailway" "current" "LPeatRailway$State;" ∈ wsX5_removeWagons := by decide +kernel
  have k142 : Cond.fieldLink RX5 142 "PeatRailway$State" "lost" "[I" ∈ wsX5_removeWagons := by decide +kernel
  have k201 : Cond.fieldLink RX5 201 "PeatRailway$State" "removed" "I" ∈ wsX5_removeWagons := by decide +kernel
  refine z_eq (ws' := SW κ Sa g ++ (RC ra (Sa 0) f9 (Ha 0) a9 b9 p9 o9 ++ (HO κ Ha hf nx ct ++ hW κ Hs gh 10))) ?_ rfl rfl rfl rfl
  have hn1 := hv.n1
  have hn2 := hv.n2
  have hb9 := hv.blk hb
  have htr9 := hv.tr b
  refine z_aload_n C dX5_removeWagons_0 0 rfl ?_
  refine z_iload_n C dX5_removeWagons_1 1 rfl ?_
  refine z_callV C (mX5_requireBlock_ok l D κ Sa _ ra f9 (Ha 0) a9 b9 p9 o9 σ M b hr hv (by omega)) gX5_removeWagons_X5_requireBlock rfl rfl rfl hdX5_requireBlock ⟨Nat.le_of_ble_eq_true rfl, Nat.le_of_ble_eq_true rfl⟩ 13 rfl rfl (HO κ Ha hf nx ct ++ hW κ Hs gh 10) (fun _ => SW κ Sa g ++ (RC ra (Sa 0) f9 (Ha 0) a9 b9 p9 o9 ++ (HO κ Ha hf nx ct ++ hW κ Hs gh 10))) (List.Perm.of_eq rfl) (fun _ => List.Perm.of_eq rfl) rfl (Nat.le_of_ble_eq_true rfl) dX5_removeWagons_2 ⟨Nat.zero_le _, Nat.zero_le _⟩ (fun _ _ => ?_)
  refine z_aload_n C dX5_removeWagons_5 0 rfl ?_
  refine z_get C hin5 13 rfl rfl 2 (by decide) k22 rfl dX5_removeWagons_6 ?_
  refine z_aload_n C dX5_removeWagons_9 0 rfl ?_
  refine z_get C hin5 13 rfl rfl 0 (by decide) k10 rfl dX5_removeWagons_10 ?_
  refine z_callV C (mX0_record l D κ Ha Sa Hs gh hf nx ct g hhf hnx hct) gX5_removeWagons_X0_record rfl rfl rfl hdX0_record ⟨Nat.le_of_ble_eq_true rfl, Nat.le_of_ble_eq_true rfl⟩ 0 rfl rfl (RC ra (Sa 0) f9 (Ha 0) a9 b9 p9 o9) (fun q => SW κ Sa g ++ (RC ra (Sa 0) f9 (Ha 0) a9 b9 p9 o9 ++ (HO κ Ha hf (fwN nx) (mnN ct) ++ hW κ Hs (upS gh nx (upA g 8 q)) 10))) pm_6 (fun _ => pm_6.symm) rfl (Nat.le_of_ble_eq_true rfl) dX5_removeWagons_13 ⟨Nat.zero_le _, Nat.zero_le _⟩ (fun q hq => ?_)
  have hrq := Rep_cp hr hv hq
  refine z_aload_n C dX5_removeWagons_16 0 rfl ?_
  refine z_get C hin5 13 rfl rfl 0 (by decide) k10 rfl dX5_removeWagons_17 ?_
  refine zs_get_lost C hin4 k142 dX5_removeWagons_20 ?_
  refine z_iload_n C dX5_removeWagons_23 1 rfl ?_
  refine zs_ald_lost C (x := σ (5 + 6 * b + 5)) (by omega) (hr.1.b9 (by omega)) dX5_removeWagons_24 ?_
  refine z_istore_n C [(2, .int (nI (σ (5 + 6 * b + 5)))), (0, .ref (ra)), (1, .int (nI b))] dX5_removeWagons_25 (by decide) rfl ?_
  refine z_aload_n C dX5_removeWagons_26 1 rfl ?_
  refine z_get C hin5 13 rfl rfl 0 (by decide) k10 rfl dX5_removeWagons_27 ?_
  refine zs_get_lost C hin4 k142 dX5_removeWagons_30 ?_
  refine z_iload_n C dX5_removeWagons_33 2 rfl ?_
  refine z_iconst (v := nI 0) C dX5_removeWagons_34 (by decide) ?_
  refine zs_ast_lost C (by omega) dX5_removeWagons_35 ?_
  refine z_aload_n C dX5_removeWagons_36 1 rfl ?_
  refine z_get C hin5 13 rfl rfl 0 (by decide) k10 rfl dX5_removeWagons_37 ?_
  refine z_dup C dX5_removeWagons_40 rfl ?_
  refine zs_get_removed C hin4 (x := σ 3) k201 dX5_removeWagons_41 hr.1.s3 ?_
  refine z_iload_n C dX5_removeWagons_44 0 rfl ?_
  refine zn_iadd C dX5_removeWagons_45 ?_
  refine zs_put_removed C hin4 k201 dX5_removeWagons_46 ?_
  have hr2 := hr.lost hv (b := b) (x := 0) (by omega)
  have hv2 := hv.lost0 (b := b) (by omega)
  have hr3 := hr2.rem hv2 (x := σ 3 + σ (5 + 6 * b + 5))
  refine z_iload_n C dX5_removeWagons_49 0 rfl ?_
  exact z_iret C hr9 hk ((upA g 8 q, up2 (up2 g 9 b 0) 3 0 ((σ 3) + (σ (5 + 6 * b + 5))))) (rfl) (⟨hrq, hr3⟩) (List.Perm.of_eq rfl) dX5_removeWagons_50 (Nat.le_refl _) (Nat.le_refl _)
theorem hdX5_removeWagons : yX5_removeWagons.cls = RX5 ∧ yX5_removeWagons.cls ≠ "java/lang/invoke/MethodHandle" ∧ yX5_removeWagons.cls ≠ "java/lang/invoke/VarHandle" ∧ (parseMethodDescriptor yX5_removeWagons.desc).map (fun d => d.parameters.length) = some 1 := by decide +kernel
set_option maxRecDepth 100000 in
set_option maxHeartbeats 4000000 in
theorem mX5_pull_no (l : Launch) (D : va_G) (κ : Nat → ClassId) (adK adV : Nat → Nat) (Sa : Nat → Nat) (g : Nat → Nat → Nat) (ra f9 h9 a9 b9 p9 o9 : Nat) (σ : Nat → Nat) (M : Nat) (x : Int32) (hls : l.stackTraces = false) (hr : Rep g σ) (hv : Inv M σ) (hx : isB (σ 1) x = false) : zX (aX adK adV) l yX5_pull wsX5_pull { frames := 7, cells := 1, slots := 6, locals := 103 } D (zTy κ) [.ref (ra), .int (x)] (SW κ Sa g ++ (RC ra (Sa 0) f9 h9 a9 b9 p9 o9)) eIB (S := Unit) (fun _ => True) (fun _ => SW κ Sa g ++ (RC ra (Sa 0) f9 h9 a9 b9 p9 o9)) 1 6 := by
  refine zX_of (cc := cX5_pull) (maxL := 2) (rt := (some .int)) [(0, .ref (ra)), (1, .int (x))] (by decide +kernel) rfl (Nat.le_of_ble_eq_true rfl) rfl ?_
  intro p e s m args below meth c A C hk htab hX
  have C : zC p s m args c cX5_pull 2 wsX5_pull RX5 D (zTy κ) A := C
  have hin5 : ∀ w ∈ wsX50, w ∈ wsX5_pull := fun w h => List.mem_cons_of_mem _ (List.mem_append_left _ (List.mem_append_left _ (List.mem_append_left _ (List.mem_append_left _ (List.mem_append_right _ h)))))
  have hin4 : ∀ w ∈ wsX40, w ∈ wsX5_pull := fun w h => List.mem_cons_of_mem _ (List.mem_append_left _ (List.mem_append_left _ (List.mem_append_left _ (List.mem_append_right _ h))))
  have hin0 : ∀ w ∈ wsX00, w ∈ wsX5_pull := fun w h => List.mem_cons_of_mem _ (List.mem_append_left _ (List.mem_append_left _ (List.mem_append_right _ h)))
  have k10 : Cond.fieldLink RX5 10 "PeatRailway" "current" "LPeatRailway$State;" ∈ wsX5_pull := by decide +kernel
  have k22 : Cond.fieldLink RX5 22 "PeatRailway" "history" "LPeatRailway$History;" ∈ wsX5_pull := by decide +kernel
  have k135 : Cond.fieldLink RX5 135 "PeatRailway$State" "clear" "[Z" ∈ wsX5_pull := by decide +kernel
  refine z_eq (ws' := SW κ Sa g ++ (RC ra (Sa 0) f9 h9 a9 b9 p9 o9 ++ [])) ?_ rfl rfl rfl rfl
  have hn1 := hv.n1
  have hn2 := hv.n2
  refine z_aload_n C dX5_pull_0 0 rfl ?_
  refine z_iload_n C dX5_pull_1 1 rfl ?_
  exact zx_callV C htab hk (aX_ok adK adV) hX (mX5_requireBlock_no l D κ adK adV Sa _ ra f9 h9 a9 b9 p9 o9 σ M (x) hls hr hv hx) gX5_pull_X5_requireBlock rfl rfl rfl hdX5_requireBlock ⟨(Nat.le_of_ble_eq_true rfl), (Nat.le_of_ble_eq_true rfl)⟩ 13 rfl rfl [] (List.Perm.refl _) rfl (Nat.le_of_ble_eq_true rfl) dX5_pull_2 ⟨(Nat.le_of_ble_eq_true rfl), (Nat.le_of_ble_eq_true rfl)⟩ (Nat.le_of_ble_eq_true rfl) (Nat.le_of_ble_eq_true rfl) (fun u _ => ⟨(), trivial, List.Perm.of_eq rfl⟩)
set_option maxRecDepth 100000 in
set_option maxHeartbeats 4000000 in
theorem mX5_setDanger_no (l : Launch) (D : va_G) (κ : Nat → ClassId) (adK adV : Nat → Nat) (Sa : Nat → Nat) (g : Nat → Nat → Nat) (ra f9 h9 a9 b9 p9 o9 : Nat) (σ : Nat → Nat) (M : Nat) (x : Int32) (hls : l.stackTraces = false) (hr : Rep g σ) (hv : Inv M σ) (hx : isB (σ 1) x = false) : zX (aX adK adV) l yX5_setDanger wsX5_setDanger { frames := 7, cells := 1, slots := 6, locals := 103 } D (zTy κ) [.ref (ra), .int (x)] (SW κ Sa g ++ (RC ra (Sa 0) f9 h9 a9 b9 p9 o9)) eIB (S := Unit) (fun _ => True) (fun _ => SW κ Sa g ++ (RC ra (Sa 0) f9 h9 a9 b9 p9 o9)) 1 6 := by
  refine zX_of (cc := cX5_setDanger) (maxL := 2) (rt := (some .int)) [(0, .ref (ra)), (1, .int (x))] (by decide +kernel) rfl (Nat.le_of_ble_eq_true rfl) rfl ?_
  intro p e s m args below meth c A C hk htab hX
  have C : zC p s m args c cX5_setDanger 2 wsX5_setDanger RX5 D (zTy κ) A := C
  have hin5 : ∀ w ∈ wsX50, w ∈ wsX5_setDanger := fun w h => List.mem_cons_of_mem _ (List.mem_append_left _ (List.mem_append_left _ (List.mem_append_left _ (List.mem_append_left _ (List.mem_append_right _ h)))))
  have hin4 : ∀ w ∈ wsX40, w ∈ wsX5_setDanger := fun w h => List.mem_cons_of_mem _ (List.mem_append_left _ (List.mem_append_left _ (List.mem_append_left _ (List.mem_append_right _ h))))
  have hin0 : ∀ w ∈ wsX00, w ∈ wsX5_setDanger := fun w h => List.mem_cons_of_mem _ (List.mem_append_left _ (List.mem_append_left _ (List.mem_append_right _ h)))
  have k10 : Cond.fieldLink RX5 10 "PeatRailway" "current" "LPeatRailway$State;" ∈ wsX5_setDanger := by decide +kernel
  have k135 : Cond.fieldLink RX5 135 "PeatRailway$State" "clear" "[Z" ∈ wsX5_setDanger := by decide +kernel
  have k22 : Cond.fieldLink RX5 22 "PeatRailway" "history" "LPeatRailway$History;" ∈ wsX5_setDanger := by decide +kernel
  refine z_eq (ws' := SW κ Sa g ++ (RC ra (Sa 0) f9 h9 a9 b9 p9 o9 ++ [])) ?_ rfl rfl rfl rfl
  have hn1 := hv.n1
  have hn2 := hv.n2
  refine z_aload_n C dX5_setDanger_0 0 rfl ?_
  refine z_iload_n C dX5_setDanger_1 1 rfl ?_
  exact zx_callV C htab hk (aX_ok adK adV) hX (mX5_requireBlock_no l D κ adK adV Sa _ ra f9 h9 a9 b9 p9 o9 σ M (x) hls hr hv hx) gX5_setDanger_X5_requireBlock rfl rfl rfl hdX5_requireBlock ⟨(Nat.le_of_ble_eq_true rfl), (Nat.le_of_ble_eq_true rfl)⟩ 13 rfl rfl [] (List.Perm.refl _) rfl (Nat.le_of_ble_eq_true rfl) dX5_setDanger_2 ⟨(Nat.le_of_ble_eq_true rfl), (Nat.le_of_ble_eq_true rfl)⟩ (Nat.le_of_ble_eq_true rfl) (Nat.le_of_ble_eq_true rfl) (fun u _ => ⟨(), trivial, List.Perm.of_eq rfl⟩)
set_option maxRecDepth 100000 in
set_option maxHeartbeats 4000000 in
theorem mX5_repair_no (l : Launch) (D : va_G) (κ : Nat → ClassId) (adK adV : Nat → Nat) (Sa : Nat → Nat) (g : Nat → Nat → Nat) (ra f9 h9 a9 b9 p9 o9 : Nat) (σ : Nat → Nat) (M : Nat) (x : Int32) (hls : l.stackTraces = false) (hr : Rep g σ) (hv : Inv M σ) (hx : isB (σ 1) x = false) : zX (aX adK adV) l yX5_repair wsX5_repair { frames := 7, cells := 1, slots := 6, locals := 103 } D (zTy κ) [.ref (ra), .int (x)] (SW κ Sa g ++ (RC ra (Sa 0) f9 h9 a9 b9 p9 o9)) eIB (S := Unit) (fun _ => True) (fun _ => SW κ Sa g ++ (RC ra (Sa 0) f9 h9 a9 b9 p9 o9)) 1 6 := by
  refine zX_of (cc := cX5_repair) (maxL := 3) (rt := (some .int)) [(0, .ref (ra)), (1, .int (x))] (by decide +kernel) rfl (Nat.le_of_ble_eq_true rfl) rfl ?_
  intro p e s m args below meth c A C hk htab hX
  have C : zC p s m args c cX5_repair 3 wsX5_repair RX5 D (zTy κ) A := C
  have hin5 : ∀ w ∈ wsX50, w ∈ wsX5_repair := fun w h => List.mem_cons_of_mem _ (List.mem_append_left _ (List.mem_append_left _ (List.mem_append_left _ (List.mem_append_left _ (List.mem_append_right _ h)))))
  have hin4 : ∀ w ∈ wsX40, w ∈ wsX5_repair := fun w h => List.mem_cons_of_mem _ (List.mem_append_left _ (List.mem_append_left _ (List.mem_append_left _ (List.mem_append_right _ h))))
  have hin0 : ∀ w ∈ wsX00, w ∈ wsX5_repair := fun w h => List.mem_cons_of_mem _ (List.mem_append_left _ (List.mem_append_left _ (List.mem_append_right _ h)))
  have k10 : Cond.fieldLink RX5 10 "PeatRailway" "current" "LPeatRailway$State;" ∈ wsX5_repair := by decide +kernel
  have k139 : Cond.fieldLink RX5 139 "PeatRailway$State" "occupant" "[I" ∈ wsX5_repair := by decide +kernel
  have k22 : Cond.fieldLink RX5 22 "PeatRailway" "history" "LPeatRailway$History;" ∈ wsX5_repair := by decide +kernel
  have k125 : Cond.fieldLink RX5 125 "PeatRailway$State" "depth" "[I" ∈ wsX5_repair := by decide +kernel
  refine z_eq (ws' := SW κ Sa g ++ (RC ra (Sa 0) f9 h9 a9 b9 p9 o9 ++ [])) ?_ rfl rfl rfl rfl
  have hn1 := hv.n1
  have hn2 := hv.n2
  refine z_aload_n C dX5_repair_0 0 rfl ?_
  refine z_iload_n C dX5_repair_1 1 rfl ?_
  exact zx_callV C htab hk (aX_ok adK adV) hX (mX5_requireBlock_no l D κ adK adV Sa _ ra f9 h9 a9 b9 p9 o9 σ M (x) hls hr hv hx) gX5_repair_X5_requireBlock rfl rfl rfl hdX5_requireBlock ⟨(Nat.le_of_ble_eq_true rfl), (Nat.le_of_ble_eq_true rfl)⟩ 13 rfl rfl [] (List.Perm.refl _) rfl (Nat.le_of_ble_eq_true rfl) dX5_repair_2 ⟨(Nat.le_of_ble_eq_true rfl), (Nat.le_of_ble_eq_true rfl)⟩ (Nat.le_of_ble_eq_true rfl) (Nat.le_of_ble_eq_true rfl) (fun u _ => ⟨(), trivial, List.Perm.of_eq rfl⟩)
set_option maxRecDepth 100000 in
set_option maxHeartbeats 4000000 in
theorem mX5_removeWagons_no (l : Launch) (D : va_G) (κ : Nat → ClassId) (adK adV : Nat → Nat) (Sa : Nat → Nat) (g : Nat → Nat → Nat) (ra f9 h9 a9 b9 p9 o9 : Nat) (σ : Nat → Nat) (M : Nat) (x : Int32) (hls : l.stackTraces = false) (hr : Rep g σ) (hv : Inv M σ) (hx : isB (σ 1) x = false) : zX (aX adK adV) l yX5_removeWagons wsX5_removeWagons { frames := 7, cells := 1, slots := 6, locals := 103 } D (zTy κ) [.ref (ra), .int (x)] (SW κ Sa g ++ (RC ra (Sa 0) f9 h9 a9 b9 p9 o9)) eIB (S := Unit) (fun _ => True) (fun _ => SW κ Sa g ++ (RC ra (Sa 0) f9 h9 a9 b9 p9 o9)) 1 6 := by
  refine zX_of (cc := cX5_removeWagons) (maxL := 3) (rt := (some .int)) [(0, .ref (ra)), (1, .int (x))] (by decide +kernel) rfl (Nat.le_of_ble_eq_true rfl) rfl ?_
  intro p e s m args below meth c A C hk htab hX
  have C : zC p s m args c cX5_removeWagons 3 wsX5_removeWagons RX5 D (zTy κ) A := C
  have hin5 : ∀ w ∈ wsX50, w ∈ wsX5_removeWagons := fun w h => List.mem_cons_of_mem _ (List.mem_append_left _ (List.mem_append_left _ (List.mem_append_left _ (List.mem_append_right _ h))))
  have hin4 : ∀ w ∈ wsX40, w ∈ wsX5_removeWagons := fun w h => List.mem_cons_of_mem _ (List.mem_append_left _ (List.mem_append_left _ (List.mem_append_right _ h)))
  have hin0 : ∀ w ∈ wsX00, w ∈ wsX5_removeWagons := fun w h => List.mem_cons_of_mem _ (List.mem_append_left _ (List.mem_append_right _ h))
  have k22 : Cond.fieldLink RX5 22 "PeatRailway" "history" "LPeatRailway$History;" ∈ wsX5_removeWagons := by decide +kernel
  have k10 : Cond.fieldLink RX5 10 "PeatRailway" "current" "LPeatRailway$State;" ∈ wsX5_removeWagons := by decide +kernel
  have k142 : Cond.fieldLink RX5 142 "PeatRailway$State" "lost" "[I" ∈ wsX5_removeWagons := by decide +kernel
  have k201 : Cond.fieldLink RX5 201 "PeatRailway$State" "removed" "I" ∈ wsX5_removeWagons := by decide +kernel
  refine z_eq (ws' := SW κ Sa g ++ (RC ra (Sa 0) f9 h9 a9 b9 p9 o9 ++ [])) ?_ rfl rfl rfl rfl
  have hn1 := hv.n1
  have hn2 := hv.n2
  refine z_aload_n C dX5_removeWagons_0 0 rfl ?_
  refine z_iload_n C dX5_removeWagons_1 1 rfl ?_
  exact zx_callV C htab hk (aX_ok adK adV) hX (mX5_requireBlock_no l D κ adK adV Sa _ ra f9 h9 a9 b9 p9 o9 σ M (x) hls hr hv hx) gX5_removeWagons_X5_requireBlock rfl rfl rfl hdX5_requireBlock ⟨(Nat.le_of_ble_eq_true rfl), (Nat.le_of_ble_eq_true rfl)⟩ 13 rfl rfl [] (List.Perm.refl _) rfl (Nat.le_of_ble_eq_true rfl) dX5_removeWagons_2 ⟨(Nat.le_of_ble_eq_true rfl), (Nat.le_of_ble_eq_true rfl)⟩ (Nat.le_of_ble_eq_true rfl) (Nat.le_of_ble_eq_true rfl) (fun u _ => ⟨(), trivial, List.Perm.of_eq rfl⟩)
set_option maxRecDepth 100000 in
set_option maxHeartbeats 4000000 in
theorem mX5_pull_bad (l : Launch) (D : va_G) (κ : Nat → ClassId) (adK adV : Nat → Nat) (Sa : Nat → Nat) (g : Nat → Nat → Nat) (ra f9 h9 a9 b9 p9 o9 : Nat) (σ : Nat → Nat) (M : Nat) (b : Nat) (hls : l.stackTraces = false) (hr : Rep g σ) (hv : Inv M σ) (hb : b < σ 1) (h0 : rsn σ b ≠ 0) : zX (aX adK adV) l yX5_pull wsX5_pull { frames := 6, cells := 1, slots := 6, locals := 103 } D (zTy κ) [.ref (ra), .int (nI b)] (SW κ Sa g ++ (RC ra (Sa 0) f9 h9 a9 b9 p9 o9)) eIS (S := Unit) (fun _ => True) (fun _ => SW κ Sa g ++ (RC ra (Sa 0) f9 h9 a9 b9 p9 o9)) 1 6 := by
  refine zX_of (cc := cX5_pull) (maxL := 2) (rt := (some .int)) [(0, .ref (ra)), (1, .int (nI b))] (by decide +kernel) rfl (Nat.le_of_ble_eq_true rfl) rfl ?_
  intro p e s m args below meth c A C hk htab hX
  have C : zC p s m args c cX5_pull 2 wsX5_pull RX5 D (zTy κ) A := C
  have hin5 : ∀ w ∈ wsX50, w ∈ wsX5_pull := fun w h => List.mem_cons_of_mem _ (List.mem_append_left _ (List.mem_append_left _ (List.mem_append_left _ (List.mem_append_left _ (List.mem_append_right _ h)))))
  have hin4 : ∀ w ∈ wsX40, w ∈ wsX5_pull := fun w h => List.mem_cons_of_mem _ (List.mem_append_left _ (List.mem_append_left _ (List.mem_append_left _ (List.mem_append_right _ h))))
  have hin0 : ∀ w ∈ wsX00, w ∈ wsX5_pull := fun w h => List.mem_cons_of_mem _ (List.mem_append_left _ (List.mem_append_left _ (List.mem_append_right _ h)))
  have k10 : Cond.fieldLink RX5 10 "PeatRailway" "current" "LPeatRailway$State;" ∈ wsX5_pull := by decide +kernel
  have k22 : Cond.fieldLink RX5 22 "PeatRailway" "history" "LPeatRailway$History;" ∈ wsX5_pull := by decide +kernel
  have k135 : Cond.fieldLink RX5 135 "PeatRailway$State" "clear" "[Z" ∈ wsX5_pull := by decide +kernel
  refine z_eq (ws' := SW κ Sa g ++ (RC ra (Sa 0) f9 h9 a9 b9 p9 o9 ++ [])) ?_ rfl rfl rfl rfl
  have hn1 := hv.n1
  have hn2 := hv.n2
  have hrs9 := rsn_le σ b
  refine z_aload_n C dX5_pull_0 0 rfl ?_
  refine z_iload_n C dX5_pull_1 1 rfl ?_
  refine z_callV C (mX5_requireBlock_ok l D κ Sa _ ra f9 h9 a9 b9 p9 o9 σ M b hr hv (by omega)) gX5_pull_X5_requireBlock rfl rfl rfl hdX5_requireBlock ⟨Nat.le_of_ble_eq_true rfl, Nat.le_of_ble_eq_true rfl⟩ 13 rfl rfl [] (fun _ => SW κ Sa g ++ (RC ra (Sa 0) f9 h9 a9 b9 p9 o9 ++ [])) (List.Perm.refl _) (fun _ => List.Perm.refl _) rfl (Nat.le_of_ble_eq_true rfl) dX5_pull_2 ⟨Nat.zero_le _, Nat.zero_le _⟩ (fun _ _ => ?_)
  refine z_aload_n C dX5_pull_5 0 rfl ?_
  refine z_get C hin5 13 rfl rfl 0 (by decide) k10 rfl dX5_pull_6 ?_
  refine z_iload_n C dX5_pull_9 1 rfl ?_
  refine zc_call C (mX4_leverObstacle l D κ Sa _ _ _ b hr hv (by omega)) gX5_pull_X4_leverObstacle rfl rfl rfl hdX4_leverObstacle ⟨Nat.le_of_ble_eq_true rfl, Nat.le_of_ble_eq_true rfl⟩ rfl (Nat.le_of_ble_eq_true rfl) dX5_pull_10 ⟨Nat.zero_le _, Nat.zero_le _⟩ ?_
  refine zn_if_eq C 26 dX5_pull_13 (by decide) (by omega) (fun h1 => ?_) (fun h2 => ?_)
  · exfalso; omega
  · exact zx_throw C htab hk hls hX (E0 := eIS) (names := ["java/lang/RuntimeException", "java/lang/Exception"]) tf_IS tn_n (show Cond.classLink RX5 76 eIS ∈ wsX5_pull from by decide +kernel) (show Cond.initialized eIS ∈ wsX5_pull from by decide +kernel) (fun w h => List.mem_cons_of_mem _ (List.mem_append_left _ (List.mem_append_right _ h))) tb_IS tc_IS tg_IS 16 (by decide) rfl rfl dX5_pull_16 dX5_pull_19 dX5_pull_20 dX5_pull_22 dX5_pull_25 (Nat.le_of_ble_eq_true rfl) (Nat.le_of_ble_eq_true rfl) (Nat.le_of_ble_eq_true rfl) (Nat.le_of_ble_eq_true rfl) (Nat.le_of_ble_eq_true rfl) (Nat.le_of_ble_eq_true rfl) (()) (trivial) (List.Perm.of_eq rfl)
set_option maxRecDepth 100000 in
set_option maxHeartbeats 4000000 in
theorem mX5_setDanger_bad (l : Launch) (D : va_G) (κ : Nat → ClassId) (adK adV : Nat → Nat) (Sa : Nat → Nat) (g : Nat → Nat → Nat) (ra f9 h9 a9 b9 p9 o9 : Nat) (σ : Nat → Nat) (M : Nat) (b : Nat) (hls : l.stackTraces = false) (hr : Rep g σ) (hv : Inv M σ) (hb : b < σ 1) (h0 : σ (5 + 6 * b + 4) = 0) : zX (aX adK adV) l yX5_setDanger wsX5_setDanger { frames := 6, cells := 1, slots := 6, locals := 103 } D (zTy κ) [.ref (ra), .int (nI b)] (SW κ Sa g ++ (RC ra (Sa 0) f9 h9 a9 b9 p9 o9)) eIS (S := Unit) (fun _ => True) (fun _ => SW κ Sa g ++ (RC ra (Sa 0) f9 h9 a9 b9 p9 o9)) 1 6 := by
  refine zX_of (cc := cX5_setDanger) (maxL := 2) (rt := (some .int)) [(0, .ref (ra)), (1, .int (nI b))] (by decide +kernel) rfl (Nat.le_of_ble_eq_true rfl) rfl ?_
  intro p e s m args below meth c A C hk htab hX
  have C : zC p s m args c cX5_setDanger 2 wsX5_setDanger RX5 D (zTy κ) A := C
  have hin5 : ∀ w ∈ wsX50, w ∈ wsX5_setDanger := fun w h => List.mem_cons_of_mem _ (List.mem_append_left _ (List.mem_append_left _ (List.mem_append_left _ (List.mem_append_left _ (List.mem_append_right _ h)))))
  have hin4 : ∀ w ∈ wsX40, w ∈ wsX5_setDanger := fun w h => List.mem_cons_of_mem _ (List.mem_append_left _ (List.mem_append_left _ (List.mem_append_left _ (List.mem_append_right _ h))))
  have hin0 : ∀ w ∈ wsX00, w ∈ wsX5_setDanger := fun w h => List.mem_cons_of_mem _ (List.mem_append_left _ (List.mem_append_left _ (List.mem_append_right _ h)))
  have k10 : Cond.fieldLink RX5 10 "PeatRailway" "current" "LPeatRailway$State;" ∈ wsX5_setDanger := by decide +kernel
  have k135 : Cond.fieldLink RX5 135 "PeatRailway$State" "clear" "[Z" ∈ wsX5_setDanger := by decide +kernel
  have k22 : Cond.fieldLink RX5 22 "PeatRailway" "history" "LPeatRailway$History;" ∈ wsX5_setDanger := by decide +kernel
  refine z_eq (ws' := SW κ Sa g ++ (RC ra (Sa 0) f9 h9 a9 b9 p9 o9 ++ [])) ?_ rfl rfl rfl rfl
  have hn1 := hv.n1
  have hn2 := hv.n2
  have hb9 := hv.blk hb
  have htr9 := hv.tr b
  refine z_aload_n C dX5_setDanger_0 0 rfl ?_
  refine z_iload_n C dX5_setDanger_1 1 rfl ?_
  refine z_callV C (mX5_requireBlock_ok l D κ Sa _ ra f9 h9 a9 b9 p9 o9 σ M b hr hv (by omega)) gX5_setDanger_X5_requireBlock rfl rfl rfl hdX5_requireBlock ⟨Nat.le_of_ble_eq_true rfl, Nat.le_of_ble_eq_true rfl⟩ 13 rfl rfl [] (fun _ => SW κ Sa g ++ (RC ra (Sa 0) f9 h9 a9 b9 p9 o9 ++ [])) (List.Perm.refl _) (fun _ => List.Perm.refl _) rfl (Nat.le_of_ble_eq_true rfl) dX5_setDanger_2 ⟨Nat.zero_le _, Nat.zero_le _⟩ (fun _ _ => ?_)
  refine z_aload_n C dX5_setDanger_5 0 rfl ?_
  refine z_get C hin5 13 rfl rfl 0 (by decide) k10 rfl dX5_setDanger_6 ?_
  refine zs_get_clear C hin4 k135 dX5_setDanger_9 ?_
  refine z_iload_n C dX5_setDanger_12 1 rfl ?_
  refine zs_ald_clear C (x := σ (5 + 6 * b + 4)) (by omega) (hr.1.b8 (by omega)) dX5_setDanger_13 ?_
  refine zn_if_ne C 27 dX5_setDanger_14 (by decide) (by omega) (fun h1 => ?_) (fun h2 => ?_)
  · exfalso; omega
  · exact zx_throw C htab hk hls hX (E0 := eIS) (names := ["java/lang/RuntimeException", "java/lang/Exception"]) tf_IS tn_n (show Cond.classLink RX5 76 eIS ∈ wsX5_setDanger from by decide +kernel) (show Cond.initialized eIS ∈ wsX5_setDanger from by decide +kernel) (fun w h => List.mem_cons_of_mem _ (List.mem_append_left _ (List.mem_append_right _ h))) tb_IS tc_IS tg_IS 17 (by decide) rfl rfl dX5_setDanger_17 dX5_setDanger_20 dX5_setDanger_21 dX5_setDanger_23 dX5_setDanger_26 (Nat.le_of_ble_eq_true rfl) (Nat.le_of_ble_eq_true rfl) (Nat.le_of_ble_eq_true rfl) (Nat.le_of_ble_eq_true rfl) (Nat.le_of_ble_eq_true rfl) (Nat.le_of_ble_eq_true rfl) (()) (trivial) (List.Perm.of_eq rfl)
set_option maxRecDepth 100000 in
set_option maxHeartbeats 4000000 in
theorem mX5_repair_bad (l : Launch) (D : va_G) (κ : Nat → ClassId) (adK adV : Nat → Nat) (Sa : Nat → Nat) (g : Nat → Nat → Nat) (ra f9 h9 a9 b9 p9 o9 : Nat) (σ : Nat → Nat) (M : Nat) (b : Nat) (hls : l.stackTraces = false) (hr : Rep g σ) (hv : Inv M σ) (hb : b < σ 1) (h0 : trAt σ b ≠ 0) : zX (aX adK adV) l yX5_repair wsX5_repair { frames := 6, cells := 1, slots := 6, locals := 103 } D (zTy κ) [.ref (ra), .int (nI b)] (SW κ Sa g ++ (RC ra (Sa 0) f9 h9 a9 b9 p9 o9)) eIS (S := Unit) (fun _ => True) (fun _ => SW κ Sa g ++ (RC ra (Sa 0) f9 h9 a9 b9 p9 o9)) 1 6 := by
  refine zX_of (cc := cX5_repair) (maxL := 3) (rt := (some .int)) [(0, .ref (ra)), (1, .int (nI b))] (by decide +kernel) rfl (Nat.le_of_ble_eq_true rfl) rfl ?_
  intro p e s m args below meth c A C hk htab hX
  have C : zC p s m args c cX5_repair 3 wsX5_repair RX5 D (zTy κ) A := C
  have hin5 : ∀ w ∈ wsX50, w ∈ wsX5_repair := fun w h => List.mem_cons_of_mem _ (List.mem_append_left _ (List.mem_append_left _ (List.mem_append_left _ (List.mem_append_left _ (List.mem_append_right _ h)))))
  have hin4 : ∀ w ∈ wsX40, w ∈ wsX5_repair := fun w h => List.mem_cons_of_mem _ (List.mem_append_left _ (List.mem_append_left _ (List.mem_append_left _ (List.mem_append_right _ h))))
  have hin0 : ∀ w ∈ wsX00, w ∈ wsX5_repair := fun w h => List.mem_cons_of_mem _ (List.mem_append_left _ (List.mem_append_left _ (List.mem_append_right _ h)))
  have k10 : Cond.fieldLink RX5 10 "PeatRailway" "current" "LPeatRailway$State;" ∈ wsX5_repair := by decide +kernel
  have k139 : Cond.fieldLink RX5 139 "PeatRailway$State" "occupant" "[I" ∈ wsX5_repair := by decide +kernel
  have k22 : Cond.fieldLink RX5 22 "PeatRailway" "history" "LPeatRailway$History;" ∈ wsX5_repair := by decide +kernel
  have k125 : Cond.fieldLink RX5 125 "PeatRailway$State" "depth" "[I" ∈ wsX5_repair := by decide +kernel
  refine z_eq (ws' := SW κ Sa g ++ (RC ra (Sa 0) f9 h9 a9 b9 p9 o9 ++ [])) ?_ rfl rfl rfl rfl
  have hn1 := hv.n1
  have hn2 := hv.n2
  have hb9 := hv.blk hb
  have htr9 := hv.tr b
  refine z_aload_n C dX5_repair_0 0 rfl ?_
  refine z_iload_n C dX5_repair_1 1 rfl ?_
  refine z_callV C (mX5_requireBlock_ok l D κ Sa _ ra f9 h9 a9 b9 p9 o9 σ M b hr hv (by omega)) gX5_repair_X5_requireBlock rfl rfl rfl hdX5_requireBlock ⟨Nat.le_of_ble_eq_true rfl, Nat.le_of_ble_eq_true rfl⟩ 13 rfl rfl [] (fun _ => SW κ Sa g ++ (RC ra (Sa 0) f9 h9 a9 b9 p9 o9 ++ [])) (List.Perm.refl _) (fun _ => List.Perm.refl _) rfl (Nat.le_of_ble_eq_true rfl) dX5_repair_2 ⟨Nat.zero_le _, Nat.zero_le _⟩ (fun _ _ => ?_)
  refine z_aload_n C dX5_repair_5 0 rfl ?_
  refine z_get C hin5 13 rfl rfl 0 (by decide) k10 rfl dX5_repair_6 ?_
  refine zs_get_occupant C hin4 k139 dX5_repair_9 ?_
  refine z_iload_n C dX5_repair_12 1 rfl ?_
  refine zs_ald_occupant C (x := trAt σ b) (by omega) (hr.2 _ (by omega)) dX5_repair_13 ?_
  refine z_iconst (v := (-1)) C dX5_repair_14 (by decide) ?_
  refine zt_icmp_eq C 28 dX5_repair_15 (by decide) (by omega) (fun h1 => ?_) (fun h2 => ?_)
  · exfalso; omega
  · exact zx_throw C htab hk hls hX (E0 := eIS) (names := ["java/lang/RuntimeException", "java/lang/Exception"]) tf_IS tn_n (show Cond.classLink RX5 76 eIS ∈ wsX5_repair from by decide +kernel) (show Cond.initialized eIS ∈ wsX5_repair from by decide +kernel) (fun w h => List.mem_cons_of_mem _ (List.mem_append_left _ (List.mem_append_right _ h))) tb_IS tc_IS tg_IS 18 (by decide) rfl rfl dX5_repair_18 dX5_repair_21 dX5_repair_22 dX5_repair_24 dX5_repair_27 (Nat.le_of_ble_eq_true rfl) (Nat.le_of_ble_eq_true rfl) (Nat.le_of_ble_eq_true rfl) (Nat.le_of_ble_eq_true rfl) (Nat.le_of_ble_eq_true rfl) (Nat.le_of_ble_eq_true rfl) (()) (trivial) (List.Perm.of_eq rfl)
set_option maxRecDepth 100000 in
set_option maxHeartbeats 4000000 in
theorem mX5_addWagons_ok (l : Launch) (D : va_G) (κ : Nat → ClassId) (Sa Ha : Nat → Nat) (Hs : Nat → Nat → Nat) (hf : Nat → Option Nat) (ra f9 a9 b9 p9 o9 : Nat) (g : Nat → Nat → Nat) (nx ct : Nat) (gh : Nat → Nat → Nat → Nat) (σ : Nat → Nat) (M : Nat) (b n : Nat) (hr : Rep g σ) (hv : Inv M σ) (hhf : ∀ j, j < 10 → hf j = some (Hs j 0)) (hnx : nx < 10) (hct : ct ≤ 10) (hb : b < σ 2) (h1n : 1 ≤ n) (h2n : n ≤ 11) (hl : σ (65 + 5 * b + 0) + n ≤ 12) : zM l yX5_addWagons wsX5_addWagons { frames := 3, cells := 0, slots := 0, locals := 70 } D (zTy κ) [.ref ra, .int (nI b), .int (nI n)] (kW κ Sa Ha Hs hf ra f9 a9 b9 p9 o9 g nx ct gh) (S := (Nat → Nat → Nat) × (Nat → Nat → Nat)) (fun _ => some (.int (nI (σ (65 + 5 * b + 0) + n)))) (fun u => Rep u.1 σ ∧ Rep u.2 (upN (upN σ (65 + 5 * b + 0) (σ (65 + 5 * b + 0) + n)) 4 (σ 4 + n))) (fun u => kW κ Sa Ha Hs hf ra f9 a9 b9 p9 o9 u.2 (fwN nx) (mnN ct) (upS gh nx u.1)) 0 0 := by
  refine zM_of (cc := cX5_addWagons) (maxL := 3) (rt := (some .int)) [(0, .ref (ra)), (1, .int (nI b)), (2, .int (nI n))] (by decide +kernel) rfl (Nat.le_of_ble_eq_true rfl) rfl ?_
  intro p e s m args below meth c A C hr9 hk hnm
  have C : zC p s m args c cX5_addWagons 3 wsX5_addWagons RX5 D (zTy κ) A := C
  have hin5 : ∀ w ∈ wsX50, w ∈ wsX5_addWagons := fun w h => List.mem_cons_of_mem _ (List.mem_append_left _ (List.mem_append_left _ (List.mem_append_left _ (List.mem_append_left _ (List.mem_append_left _ (List.mem_append_right _ h))))))
  have hin4 : ∀ w ∈ wsX40, w ∈ wsX5_addWagons := fun w h => List.mem_cons_of_mem _ (List.mem_append_left _ (List.mem_append_left _ (List.mem_append_left _ (List.mem_append_left _ (List.mem_append_right _ h)))))
  have hin0 : ∀ w ∈ wsX00, w ∈ wsX5_addWagons := fun w h => List.mem_cons_of_mem _ (List.mem_append_left _ (List.mem_append_left _ (List.mem_append_left _ (List.mem_append_right _ h))))
  have k10 : Cond.fieldLink RX5 10 "PeatRailway" "current" "LPeatRailway$State;" ∈ wsX5_addWagons := by decide +kernel
  have k172 : Cond.fieldLink RX5 172 "PeatRailway$State" "wagons" "[I" ∈ wsX5_addWagons := by decide +kernel
  have k22 : Cond.fieldLink RX5 22 "PeatRailway" "history" "LPeatRailway$History;" ∈ wsX5_addWagons := by decide +kernel
  have k204 : Cond.fieldLink RX5 204 "PeatRailway$State" "added" "I" ∈ wsX5_addWagons := by decide +kernel
  refine z_eq (ws' := SW κ Sa g ++ (RC ra (Sa 0) f9 (Ha 0) a9 b9 p9 o9 ++ (HO κ Ha hf nx ct ++ hW κ Hs gh 10))) ?_ rfl rfl rfl rfl
  have hn1 := hv.n1
  have hn2 := hv.n2
  have ht9 := hv.trn hb
  refine z_aload_n C dX5_addWagons_0 0 rfl ?_
  refine z_iload_n C dX5_addWagons_1 1 rfl ?_
  refine z_callV C (mX5_requireTrain_ok l D κ Sa _ ra f9 (Ha 0) a9 b9 p9 o9 σ M b hr hv (by omega)) gX5_addWagons_X5_requireTrain rfl rfl rfl hdX5_requireTrain ⟨Nat.le_of_ble_eq_true rfl, Nat.le_of_ble_eq_true rfl⟩ 13 rfl rfl (HO κ Ha hf nx ct ++ hW κ Hs gh 10) (fun _ => SW κ Sa g ++ (RC ra (Sa 0) f9 (Ha 0) a9 b9 p9 o9 ++ (HO κ Ha hf nx ct ++ hW κ Hs gh 10))) (List.Perm.of_eq rfl) (fun _ => List.Perm.of_eq rfl) rfl (Nat.le_of_ble_eq_true rfl) dX5_addWagons_2 ⟨Nat.zero_le _, Nat.zero_le _⟩ (fun _ _ => ?_)
  refine z_iload_n C dX5_addWagons_5 2 rfl ?_
  refine z_iconst (v := nI 1) C dX5_addWagons_6 (by decide) ?_
  refine zn_icmp_lt C 16 dX5_addWagons_7 (by decide) (by omega) (by omega) (fun h1 => ?_) (fun h2 => ?_)
  · exfalso; omega
  · refine z_iload_n C dX5_addWagons_10 2 rfl ?_
    refine z_bipush (v := nI 11) C dX5_addWagons_11 (by decide) ?_
    refine zn_icmp_le C 26 dX5_addWagons_13 (by decide) (by omega) (by omega) (fun h3 => ?_) (fun h4 => ?_)
    · refine z_aload_n C dX5_addWagons_26 0 rfl ?_
      refine z_get C hin5 13 rfl rfl 0 (by decide) k10 rfl dX5_addWagons_27 ?_
      refine zs_get_wagons C hin4 k172 dX5_addWagons_30 ?_
      refine z_iload_n C dX5_addWagons_33 1 rfl ?_
      refine zs_ald_wagons C (x := σ (65 + 5 * b + 0)) (by omega) (hr.1.t13 (by omega)) dX5_addWagons_34 ?_
      refine z_iload_n C dX5_addWagons_35 2 rfl ?_
      refine zn_iadd C dX5_addWagons_36 ?_
      refine z_bipush (v := nI 12) C dX5_addWagons_37 (by decide) ?_
      refine zn_icmp_le C 52 dX5_addWagons_39 (by decide) (by omega) (by omega) (fun h5 => ?_) (fun h6 => ?_)
      · refine z_aload_n C dX5_addWagons_52 0 rfl ?_
        refine z_get C hin5 13 rfl rfl 2 (by decide) k22 rfl dX5_addWagons_53 ?_
        refine z_aload_n C dX5_addWagons_56 0 rfl ?_
        refine z_get C hin5 13 rfl rfl 0 (by decide) k10 rfl dX5_addWagons_57 ?_
        refine z_callV C (mX0_record l D κ Ha Sa Hs gh hf nx ct g hhf hnx hct) gX5_addWagons_X0_record rfl rfl rfl hdX0_record ⟨Nat.le_of_ble_eq_true rfl, Nat.le_of_ble_eq_true rfl⟩ 0 rfl rfl (RC ra (Sa 0) f9 (Ha 0) a9 b9 p9 o9) (fun q => SW κ Sa g ++ (RC ra (Sa 0) f9 (Ha 0) a9 b9 p9 o9 ++ (HO κ Ha hf (fwN nx) (mnN ct) ++ hW κ Hs (upS gh nx (upA g 8 q)) 10))) pm_6 (fun _ => pm_6.symm) rfl (Nat.le_of_ble_eq_true rfl) dX5_addWagons_60 ⟨Nat.zero_le _, Nat.zero_le _⟩ (fun q hq => ?_)
        have hrq := Rep_cp hr hv hq
        refine z_aload_n C dX5_addWagons_63 0 rfl ?_
        refine z_get C hin5 13 rfl rfl 0 (by decide) k10 rfl dX5_addWagons_64 ?_
        refine zs_get_wagons C hin4 k172 dX5_addWagons_67 ?_
        refine z_iload_n C dX5_addWagons_70 1 rfl ?_
        refine z_dup2 C dX5_addWagons_71 rfl rfl ?_
        refine zs_ald_wagons C (x := σ (65 + 5 * b + 0)) (by omega) (hr.1.t13 (by omega)) dX5_addWagons_72 ?_
        refine z_iload_n C dX5_addWagons_73 2 rfl ?_
        refine zn_iadd C dX5_addWagons_74 ?_
        refine zs_ast_wagons C (by omega) dX5_addWagons_75 ?_
        refine z_aload_n C dX5_addWagons_76 0 rfl ?_
        refine z_get C hin5 13 rfl rfl 0 (by decide) k10 rfl dX5_addWagons_77 ?_
        refine z_dup C dX5_addWagons_80 rfl ?_
        refine zs_get_added C hin4 (x := σ 4) k204 dX5_addWagons_81 hr.1.s4 ?_
        refine z_iload_n C dX5_addWagons_84 2 rfl ?_
        refine zn_iadd C dX5_addWagons_85 ?_
        refine zs_put_added C hin4 k204 dX5_addWagons_86 ?_
        refine z_aload_n C dX5_addWagons_89 0 rfl ?_
        refine z_get C hin5 13 rfl rfl 0 (by decide) k10 rfl dX5_addWagons_90 ?_
        refine zs_get_wagons C hin4 k172 dX5_addWagons_93 ?_
        refine z_iload_n C dX5_addWagons_96 1 rfl ?_
        refine zs_ald_wagons C (x := (σ (65 + 5 * b + 0)) + n) (by omega) (show up2 g 13 b ((σ (65 + 5 * b + 0)) + n) 13 b = (σ (65 + 5 * b + 0)) + n from up2_s) dX5_addWagons_97 ?_
        have hr2 := hr.wag hv (a := b) (x := σ (65 + 5 * b + 0) + n) (by omega)
        have hv2 := hv.wag (a := b) (x := σ (65 + 5 * b + 0) + n) (by omega) (by omega) (by omega)
        have hr3 := hr2.add hv2 (x := σ 4 + n)
        exact z_iret C hr9 hk ((upA g 8 q, up2 (up2 g 13 b ((σ (65 + 5 * b + 0)) + n)) 4 0 ((σ 4) + n))) (rfl) (⟨hrq, hr3⟩) (List.Perm.of_eq rfl) dX5_addWagons_98 (Nat.le_refl _) (Nat.le_refl _)
      · exfalso; omega
    · exfalso; omega
theorem hdX5_addWagons : yX5_addWagons.cls = RX5 ∧ yX5_addWagons.cls ≠ "java/lang/invoke/MethodHandle" ∧ yX5_addWagons.cls ≠ "java/lang/invoke/VarHandle" ∧ (parseMethodDescriptor yX5_addWagons.desc).map (fun d => d.parameters.length) = some 2 := by decide +kernel
set_option maxRecDepth 100000 in
set_option maxHeartbeats 4000000 in
theorem mX5_setTopSpeed_ok (l : Launch) (D : va_G) (κ : Nat → ClassId) (Sa Ha : Nat → Nat) (Hs : Nat → Nat → Nat) (hf : Nat → Option Nat) (ra f9 a9 b9 p9 o9 : Nat) (g : Nat → Nat → Nat) (nx ct : Nat) (gh : Nat → Nat → Nat → Nat) (σ : Nat → Nat) (M : Nat) (b n : Nat) (hr : Rep g σ) (hv : Inv M σ) (hhf : ∀ j, j < 10 → hf j = some (Hs j 0)) (hnx : nx < 10) (hct : ct ≤ 10) (hb : b < σ 2) (h1n : 1 ≤ n) (h2n : n ≤ 5) : zM l yX5_setTopSpeed wsX5_setTopSpeed { frames := 3, cells := 0, slots := 0, locals := 70 } D (zTy κ) [.ref ra, .int (nI b), .int (nI n)] (kW κ Sa Ha Hs hf ra f9 a9 b9 p9 o9 g nx ct gh) (S := (Nat → Nat → Nat) × (Nat → Nat → Nat)) (fun _ => some (.int (nI (σ (65 + 5 * b + 1))))) (fun u => Rep u.1 σ ∧ Rep u.2 (upN σ (65 + 5 * b + 1) n)) (fun u => kW κ Sa Ha Hs hf ra f9 a9 b9 p9 o9 u.2 (fwN nx) (mnN ct) (upS gh nx u.1)) 0 0 := by
  refine zM_of (cc := cX5_setTopSpeed) (maxL := 4) (rt := (some .int)) [(0, .ref (ra)), (1, .int (nI b)), (2, .int (nI n))] (by decide +kernel) rfl (Nat.le_of_ble_eq_true rfl) rfl ?_
  intro p e s m args below meth c A C hr9 hk hnm
  have C : zC p s m args c cX5_setTopSpeed 4 wsX5_setTopSpeed RX5 D (zTy κ) A := C
  have hin5 : ∀ w ∈ wsX50, w ∈ wsX5_setTopSpeed := fun w h => List.mem_cons_of_mem _ (List.mem_append_left _ (List.mem_append_left _ (List.mem_append_left _ (List.mem_append_left _ (List.mem_append_right _ h)))))
  have hin4 : ∀ w ∈ wsX40, w ∈ wsX5_setTopSpeed := fun w h => List.mem_cons_of_mem _ (List.mem_append_left _ (List.mem_append_left _ (List.mem_append_left _ (List.mem_append_right _ h))))
  have hin0 : ∀ w ∈ wsX00, w ∈ wsX5_setTopSpeed := fun w h => List.mem_cons_of_mem _ (List.mem_append_left _ (List.mem_append_left _ (List.mem_append_right _ h)))
  have k22 : Cond.fieldLink RX5 22 "PeatRailway" "history" "LPeatRailway$History;" ∈ wsX5_setTopSpeed := by decide +kernel
  have k10 : Cond.fieldLink RX5 10 "PeatRailway" "current" "LPeatRailway$State;" ∈ wsX5_setTopSpeed := by decide +kernel
  have k175 : Cond.fieldLink RX5 175 "PeatRailway$State" "topSpeed" "[I" ∈ wsX5_setTopSpeed := by decide +kernel
  refine z_eq (ws' := SW κ Sa g ++ (RC ra (Sa 0) f9 (Ha 0) a9 b9 p9 o9 ++ (HO κ Ha hf nx ct ++ hW κ Hs gh 10))) ?_ rfl rfl rfl rfl
  have hn1 := hv.n1
  have hn2 := hv.n2
  have ht9 := hv.trn hb
  refine z_aload_n C dX5_setTopSpeed_0 0 rfl ?_
  refine z_iload_n C dX5_setTopSpeed_1 1 rfl ?_
  refine z_callV C (mX5_requireTrain_ok l D κ Sa _ ra f9 (Ha 0) a9 b9 p9 o9 σ M b hr hv (by omega)) gX5_setTopSpeed_X5_requireTrain rfl rfl rfl hdX5_requireTrain ⟨Nat.le_of_ble_eq_true rfl, Nat.le_of_ble_eq_true rfl⟩ 13 rfl rfl (HO κ Ha hf nx ct ++ hW κ Hs gh 10) (fun _ => SW κ Sa g ++ (RC ra (Sa 0) f9 (Ha 0) a9 b9 p9 o9 ++ (HO κ Ha hf nx ct ++ hW κ Hs gh 10))) (List.Perm.of_eq rfl) (fun _ => List.Perm.of_eq rfl) rfl (Nat.le_of_ble_eq_true rfl) dX5_setTopSpeed_2 ⟨Nat.zero_le _, Nat.zero_le _⟩ (fun _ _ => ?_)
  refine z_iload_n C dX5_setTopSpeed_5 2 rfl ?_
  refine z_iconst (v := nI 1) C dX5_setTopSpeed_6 (by decide) ?_
  refine zn_icmp_lt C 15 dX5_setTopSpeed_7 (by decide) (by omega) (by omega) (fun h1 => ?_) (fun h2 => ?_)
  · exfalso; omega
  · refine z_iload_n C dX5_setTopSpeed_10 2 rfl ?_
    refine z_iconst (v := nI 5) C dX5_setTopSpeed_11 (by decide) ?_
    refine zn_icmp_le C 25 dX5_setTopSpeed_12 (by decide) (by omega) (by omega) (fun h3 => ?_) (fun h4 => ?_)
    · refine z_aload_n C dX5_setTopSpeed_25 0 rfl ?_
      refine z_get C hin5 13 rfl rfl 2 (by decide) k22 rfl dX5_setTopSpeed_26 ?_
      refine z_aload_n C dX5_setTopSpeed_29 0 rfl ?_
      refine z_get C hin5 13 rfl rfl 0 (by decide) k10 rfl dX5_setTopSpeed_30 ?_
      refine z_callV C (mX0_record l D κ Ha Sa Hs gh hf nx ct g hhf hnx hct) gX5_setTopSpeed_X0_record rfl rfl rfl hdX0_record ⟨Nat.le_of_ble_eq_true rfl, Nat.le_of_ble_eq_true rfl⟩ 0 rfl rfl (RC ra (Sa 0) f9 (Ha 0) a9 b9 p9 o9) (fun q => SW κ Sa g ++ (RC ra (Sa 0) f9 (Ha 0) a9 b9 p9 o9 ++ (HO κ Ha hf (fwN nx) (mnN ct) ++ hW κ Hs (upS gh nx (upA g 8 q)) 10))) pm_6 (fun _ => pm_6.symm) rfl (Nat.le_of_ble_eq_true rfl) dX5_setTopSpeed_33 ⟨Nat.zero_le _, Nat.zero_le _⟩ (fun q hq => ?_)
      have hrq := Rep_cp hr hv hq
      refine z_aload_n C dX5_setTopSpeed_36 0 rfl ?_
      refine z_get C hin5 13 rfl rfl 0 (by decide) k10 rfl dX5_setTopSpeed_37 ?_
      refine zs_get_topSpeed C hin4 k175 dX5_setTopSpeed_40 ?_
      refine z_iload_n C dX5_setTopSpeed_43 1 rfl ?_
      refine zs_ald_topSpeed C (x := σ (65 + 5 * b + 1)) (by omega) (hr.1.t14 (by omega)) dX5_setTopSpeed_44 ?_
      refine z_istore_n C [(3, .int (nI (σ (65 + 5 * b + 1)))), (0, .ref (ra)), (1, .int (nI b)), (2, .int (nI n))] dX5_setTopSpeed_45 (by decide) rfl ?_
      refine z_aload_n C dX5_setTopSpeed_46 1 rfl ?_
      refine z_get C hin5 13 rfl rfl 0 (by decide) k10 rfl dX5_setTopSpeed_47 ?_
      refine zs_get_topSpeed C hin4 k175 dX5_setTopSpeed_50 ?_
      refine z_iload_n C dX5_setTopSpeed_53 2 rfl ?_
      refine z_iload_n C dX5_setTopSpeed_54 3 rfl ?_
      refine zs_ast_topSpeed C (by omega) dX5_setTopSpeed_55 ?_
      have hr2 := hr.top hv (a := b) (x := n) (by omega)
      refine z_iload_n C dX5_setTopSpeed_56 0 rfl ?_
      exact z_iret C hr9 hk ((upA g 8 q, up2 g 14 b n)) (rfl) (⟨hrq, hr2⟩) (List.Perm.of_eq rfl) dX5_setTopSpeed_57 (Nat.le_refl _) (Nat.le_refl _)
    · exfalso; omega
theorem hdX5_setTopSpeed : yX5_setTopSpeed.cls = RX5 ∧ yX5_setTopSpeed.cls ≠ "java/lang/invoke/MethodHandle" ∧ yX5_setTopSpeed.cls ≠ "java/lang/invoke/VarHandle" ∧ (parseMethodDescriptor yX5_setTopSpeed.desc).map (fun d => d.parameters.length) = some 2 := by decide +kernel
set_option maxRecDepth 100000 in
set_option maxHeartbeats 4000000 in
theorem mX5_addWagons_no (l : Launch) (D : va_G) (κ : Nat → ClassId) (adK adV : Nat → Nat) (Sa : Nat → Nat) (g : Nat → Nat → Nat) (ra f9 h9 a9 b9 p9 o9 : Nat) (σ : Nat → Nat) (M : Nat) (x y : Int32) (hls : l.stackTraces = false) (hr : Rep g σ) (hv : Inv M σ) (hx : isB (σ 2) x = false) : zX (aX adK adV) l yX5_addWagons wsX5_addWagons { frames := 7, cells := 1, slots := 6, locals := 103 } D (zTy κ) [.ref (ra), .int (x), .int (y)] (SW κ Sa g ++ (RC ra (Sa 0) f9 h9 a9 b9 p9 o9)) eIB (S := Unit) (fun _ => True) (fun _ => SW κ Sa g ++ (RC ra (Sa 0) f9 h9 a9 b9 p9 o9)) 1 6 := by
  refine zX_of (cc := cX5_addWagons) (maxL := 3) (rt := (some .int)) [(0, .ref (ra)), (1, .int (x)), (2, .int (y))] (by decide +kernel) rfl (Nat.le_of_ble_eq_true rfl) rfl ?_
  intro p e s m args below meth c A C hk htab hX
  have C : zC p s m args c cX5_addWagons 3 wsX5_addWagons RX5 D (zTy κ) A := C
  have hin5 : ∀ w ∈ wsX50, w ∈ wsX5_addWagons := fun w h => List.mem_cons_of_mem _ (List.mem_append_left _ (List.mem_append_left _ (List.mem_append_left _ (List.mem_append_left _ (List.mem_append_left _ (List.mem_append_right _ h))))))
  have hin4 : ∀ w ∈ wsX40, w ∈ wsX5_addWagons := fun w h => List.mem_cons_of_mem _ (List.mem_append_left _ (List.mem_append_left _ (List.mem_append_left _ (List.mem_append_left _ (List.mem_append_right _ h)))))
  have hin0 : ∀ w ∈ wsX00, w ∈ wsX5_addWagons := fun w h => List.mem_cons_of_mem _ (List.mem_append_left _ (List.mem_append_left _ (List.mem_append_left _ (List.mem_append_right _ h))))
  have k10 : Cond.fieldLink RX5 10 "PeatRailway" "current" "LPeatRailway$State;" ∈ wsX5_addWagons := by decide +kernel
  have k172 : Cond.fieldLink RX5 172 "PeatRailway$State" "wagons" "[I" ∈ wsX5_addWagons := by decide +kernel
  have k22 : Cond.fieldLink RX5 22 "PeatRailway" "history" "LPeatRailway$History;" ∈ wsX5_addWagons := by decide +kernel
  have k204 : Cond.fieldLink RX5 204 "PeatRailway$State" "added" "I" ∈ wsX5_addWagons := by decide +kernel
  refine z_eq (ws' := SW κ Sa g ++ (RC ra (Sa 0) f9 h9 a9 b9 p9 o9 ++ [])) ?_ rfl rfl rfl rfl
  have hn1 := hv.n1
  have hn2 := hv.n2
  refine z_aload_n C dX5_addWagons_0 0 rfl ?_
  refine z_iload_n C dX5_addWagons_1 1 rfl ?_
  exact zx_callV C htab hk (aX_ok adK adV) hX (mX5_requireTrain_no l D κ adK adV Sa _ ra f9 h9 a9 b9 p9 o9 σ M (x) hls hr hv hx) gX5_addWagons_X5_requireTrain rfl rfl rfl hdX5_requireTrain ⟨(Nat.le_of_ble_eq_true rfl), (Nat.le_of_ble_eq_true rfl)⟩ 13 rfl rfl [] (List.Perm.refl _) rfl (Nat.le_of_ble_eq_true rfl) dX5_addWagons_2 ⟨(Nat.le_of_ble_eq_true rfl), (Nat.le_of_ble_eq_true rfl)⟩ (Nat.le_of_ble_eq_true rfl) (Nat.le_of_ble_eq_true rfl) (fun u _ => ⟨(), trivial, List.Perm.of_eq rfl⟩)
set_option maxRecDepth 100000 in
set_option maxHeartbeats 4000000 in
theorem mX5_setTopSpeed_no (l : Launch) (D : va_G) (κ : Nat → ClassId) (adK adV : Nat → Nat) (Sa : Nat → Nat) (g : Nat → Nat → Nat) (ra f9 h9 a9 b9 p9 o9 : Nat) (σ : Nat → Nat) (M : Nat) (x y : Int32) (hls : l.stackTraces = false) (hr : Rep g σ) (hv : Inv M σ) (hx : isB (σ 2) x = false) : zX (aX adK adV) l yX5_setTopSpeed wsX5_setTopSpeed { frames := 7, cells := 1, slots := 6, locals := 103 } D (zTy κ) [.ref (ra), .int (x), .int (y)] (SW κ Sa g ++ (RC ra (Sa 0) f9 h9 a9 b9 p9 o9)) eIB (S := Unit) (fun _ => True) (fun _ => SW κ Sa g ++ (RC ra (Sa 0) f9 h9 a9 b9 p9 o9)) 1 6 := by
  refine zX_of (cc := cX5_setTopSpeed) (maxL := 4) (rt := (some .int)) [(0, .ref (ra)), (1, .int (x)), (2, .int (y))] (by decide +kernel) rfl (Nat.le_of_ble_eq_true rfl) rfl ?_
  intro p e s m args below meth c A C hk htab hX
  have C : zC p s m args c cX5_setTopSpeed 4 wsX5_setTopSpeed RX5 D (zTy κ) A := C
  have hin5 : ∀ w ∈ wsX50, w ∈ wsX5_setTopSpeed := fun w h => List.mem_cons_of_mem _ (List.mem_append_left _ (List.mem_append_left _ (List.mem_append_left _ (List.mem_append_left _ (List.mem_append_right _ h)))))
  have hin4 : ∀ w ∈ wsX40, w ∈ wsX5_setTopSpeed := fun w h => List.mem_cons_of_mem _ (List.mem_append_left _ (List.mem_append_left _ (List.mem_append_left _ (List.mem_append_right _ h))))
  have hin0 : ∀ w ∈ wsX00, w ∈ wsX5_setTopSpeed := fun w h => List.mem_cons_of_mem _ (List.mem_append_left _ (List.mem_append_left _ (List.mem_append_right _ h)))
  have k22 : Cond.fieldLink RX5 22 "PeatRailway" "history" "LPeatRailway$History;" ∈ wsX5_setTopSpeed := by decide +kernel
  have k10 : Cond.fieldLink RX5 10 "PeatRailway" "current" "LPeatRailway$State;" ∈ wsX5_setTopSpeed := by decide +kernel
  have k175 : Cond.fieldLink RX5 175 "PeatRailway$State" "topSpeed" "[I" ∈ wsX5_setTopSpeed := by decide +kernel
  refine z_eq (ws' := SW κ Sa g ++ (RC ra (Sa 0) f9 h9 a9 b9 p9 o9 ++ [])) ?_ rfl rfl rfl rfl
  have hn1 := hv.n1
  have hn2 := hv.n2
  refine z_aload_n C dX5_setTopSpeed_0 0 rfl ?_
  refine z_iload_n C dX5_setTopSpeed_1 1 rfl ?_
  exact zx_callV C htab hk (aX_ok adK adV) hX (mX5_requireTrain_no l D κ adK adV Sa _ ra f9 h9 a9 b9 p9 o9 σ M (x) hls hr hv hx) gX5_setTopSpeed_X5_requireTrain rfl rfl rfl hdX5_requireTrain ⟨(Nat.le_of_ble_eq_true rfl), (Nat.le_of_ble_eq_true rfl)⟩ 13 rfl rfl [] (List.Perm.refl _) rfl (Nat.le_of_ble_eq_true rfl) dX5_setTopSpeed_2 ⟨(Nat.le_of_ble_eq_true rfl), (Nat.le_of_ble_eq_true rfl)⟩ (Nat.le_of_ble_eq_true rfl) (Nat.le_of_ble_eq_true rfl) (fun u _ => ⟨(), trivial, List.Perm.of_eq rfl⟩)
set_option maxRecDepth 100000 in
set_option maxHeartbeats 4000000 in
theorem mX5_addWagons_rng (l : Launch) (D : va_G) (κ : Nat → ClassId) (adK adV : Nat → Nat) (Sa : Nat → Nat) (g : Nat → Nat → Nat) (ra f9 h9 a9 b9 p9 o9 : Nat) (σ : Nat → Nat) (M : Nat) (b : Nat) (x : Int32) (hls : l.stackTraces = false) (hr : Rep g σ) (hv : Inv M σ) (hb : b < σ 2) (hx : inI x (nI 1) (nI 11) = false) : zX (aX adK adV) l yX5_addWagons wsX5_addWagons { frames := 6, cells := 1, slots := 6, locals := 103 } D (zTy κ) [.ref (ra), .int (nI b), .int (x)] (SW κ Sa g ++ (RC ra (Sa 0) f9 h9 a9 b9 p9 o9)) eIA (S := Unit) (fun _ => True) (fun _ => SW κ Sa g ++ (RC ra (Sa 0) f9 h9 a9 b9 p9 o9)) 1 6 := by
  refine zX_of (cc := cX5_addWagons) (maxL := 3) (rt := (some .int)) [(0, .ref (ra)), (1, .int (nI b)), (2, .int (x))] (by decide +kernel) rfl (Nat.le_of_ble_eq_true rfl) rfl ?_
  intro p e s m args below meth c A C hk htab hX
  have C : zC p s m args c cX5_addWagons 3 wsX5_addWagons RX5 D (zTy κ) A := C
  have hin5 : ∀ w ∈ wsX50, w ∈ wsX5_addWagons := fun w h => List.mem_cons_of_mem _ (List.mem_append_left _ (List.mem_append_left _ (List.mem_append_left _ (List.mem_append_left _ (List.mem_append_left _ (List.mem_append_right _ h))))))
  have hin4 : ∀ w ∈ wsX40, w ∈ wsX5_addWagons := fun w h => List.mem_cons_of_mem _ (List.mem_append_left _ (List.mem_append_left _ (List.mem_append_left _ (List.mem_append_left _ (List.mem_append_right _ h)))))
  have hin0 : ∀ w ∈ wsX00, w ∈ wsX5_addWagons := fun w h => List.mem_cons_of_mem _ (List.mem_append_left _ (List.mem_append_left _ (List.mem_append_left _ (List.mem_append_right _ h))))
  have k10 : Cond.fieldLink RX5 10 "PeatRailway" "current" "LPeatRailway$State;" ∈ wsX5_addWagons := by decide +kernel
  have k172 : Cond.fieldLink RX5 172 "PeatRailway$State" "wagons" "[I" ∈ wsX5_addWagons := by decide +kernel
  have k22 : Cond.fieldLink RX5 22 "PeatRailway" "history" "LPeatRailway$History;" ∈ wsX5_addWagons := by decide +kernel
  have k204 : Cond.fieldLink RX5 204 "PeatRailway$State" "added" "I" ∈ wsX5_addWagons := by decide +kernel
  refine z_eq (ws' := SW κ Sa g ++ (RC ra (Sa 0) f9 h9 a9 b9 p9 o9 ++ [])) ?_ rfl rfl rfl rfl
  have hn1 := hv.n1
  have hn2 := hv.n2
  refine z_aload_n C dX5_addWagons_0 0 rfl ?_
  refine z_iload_n C dX5_addWagons_1 1 rfl ?_
  refine z_callV C (mX5_requireTrain_ok l D κ Sa _ ra f9 h9 a9 b9 p9 o9 σ M b hr hv (by omega)) gX5_addWagons_X5_requireTrain rfl rfl rfl hdX5_requireTrain ⟨Nat.le_of_ble_eq_true rfl, Nat.le_of_ble_eq_true rfl⟩ 13 rfl rfl [] (fun _ => SW κ Sa g ++ (RC ra (Sa 0) f9 h9 a9 b9 p9 o9 ++ [])) (List.Perm.refl _) (fun _ => List.Perm.refl _) rfl (Nat.le_of_ble_eq_true rfl) dX5_addWagons_2 ⟨Nat.zero_le _, Nat.zero_le _⟩ (fun _ _ => ?_)
  refine z_iload_n C dX5_addWagons_5 2 rfl ?_
  refine z_iconst (v := nI 1) C dX5_addWagons_6 (by decide) ?_
  refine z_icmp_lt C 16 dX5_addWagons_7 (by decide) (fun h1 => ?_) (fun h2 => ?_)
  · exact zx_throw C htab hk hls hX (E0 := eIA) (names := ["java/lang/RuntimeException", "java/lang/Exception"]) tf_IA tn_n (show Cond.classLink RX5 95 eIA ∈ wsX5_addWagons from by decide +kernel) (show Cond.initialized eIA ∈ wsX5_addWagons from by decide +kernel) (fun w h => List.mem_cons_of_mem _ (List.mem_append_left _ (List.mem_append_left _ (List.mem_append_right _ h)))) tb_IA tc_IA tg_IA 19 (by decide) rfl rfl dX5_addWagons_16 dX5_addWagons_19 dX5_addWagons_20 dX5_addWagons_22 dX5_addWagons_25 (Nat.le_of_ble_eq_true rfl) (Nat.le_of_ble_eq_true rfl) (Nat.le_of_ble_eq_true rfl) (Nat.le_of_ble_eq_true rfl) (Nat.le_of_ble_eq_true rfl) (Nat.le_of_ble_eq_true rfl) (()) (trivial) (List.Perm.of_eq rfl)
  · refine z_iload_n C dX5_addWagons_10 2 rfl ?_
    refine z_bipush (v := nI 11) C dX5_addWagons_11 (by decide) ?_
    refine z_icmp_le C 26 dX5_addWagons_13 (by decide) (fun q => absurd ((inI_n x h2 (Int32.not_lt.mpr q)).symm.trans hx) (by decide)) (fun _ => ?_)
    exact zx_throw C htab hk hls hX (E0 := eIA) (names := ["java/lang/RuntimeException", "java/lang/Exception"]) tf_IA tn_n (show Cond.classLink RX5 95 eIA ∈ wsX5_addWagons from by decide +kernel) (show Cond.initialized eIA ∈ wsX5_addWagons from by decide +kernel) (fun w h => List.mem_cons_of_mem _ (List.mem_append_left _ (List.mem_append_left _ (List.mem_append_right _ h)))) tb_IA tc_IA tg_IA 19 (by decide) rfl rfl dX5_addWagons_16 dX5_addWagons_19 dX5_addWagons_20 dX5_addWagons_22 dX5_addWagons_25 (Nat.le_of_ble_eq_true rfl) (Nat.le_of_ble_eq_true rfl) (Nat.le_of_ble_eq_true rfl) (Nat.le_of_ble_eq_true rfl) (Nat.le_of_ble_eq_true rfl) (Nat.le_of_ble_eq_true rfl) (()) (trivial) (List.Perm.of_eq rfl)
set_option maxRecDepth 100000 in
set_option maxHeartbeats 4000000 in
theorem mX5_addWagons_lim (l : Launch) (D : va_G) (κ : Nat → ClassId) (adK adV : Nat → Nat) (Sa : Nat → Nat) (g : Nat → Nat → Nat) (ra f9 h9 a9 b9 p9 o9 : Nat) (σ : Nat → Nat) (M : Nat) (b n : Nat) (hls : l.stackTraces = false) (hr : Rep g σ) (hv : Inv M σ) (hb : b < σ 2) (h1n : 1 ≤ n) (h2n : n ≤ 11) (hl : 12 < σ (65 + 5 * b + 0) + n) : zX (aX adK adV) l yX5_addWagons wsX5_addWagons { frames := 6, cells := 1, slots := 6, locals := 103 } D (zTy κ) [.ref (ra), .int (nI b), .int (nI n)] (SW κ Sa g ++ (RC ra (Sa 0) f9 h9 a9 b9 p9 o9)) eIS (S := Unit) (fun _ => True) (fun _ => SW κ Sa g ++ (RC ra (Sa 0) f9 h9 a9 b9 p9 o9)) 1 6 := by
  refine zX_of (cc := cX5_addWagons) (maxL := 3) (rt := (some .int)) [(0, .ref (ra)), (1, .int (nI b)), (2, .int (nI n))] (by decide +kernel) rfl (Nat.le_of_ble_eq_true rfl) rfl ?_
  intro p e s m args below meth c A C hk htab hX
  have C : zC p s m args c cX5_addWagons 3 wsX5_addWagons RX5 D (zTy κ) A := C
  have hin5 : ∀ w ∈ wsX50, w ∈ wsX5_addWagons := fun w h => List.mem_cons_of_mem _ (List.mem_append_left _ (List.mem_append_left _ (List.mem_append_left _ (List.mem_append_left _ (List.mem_append_left _ (List.mem_append_right _ h))))))
  have hin4 : ∀ w ∈ wsX40, w ∈ wsX5_addWagons := fun w h => List.mem_cons_of_mem _ (List.mem_append_left _ (List.mem_append_left _ (List.mem_append_left _ (List.mem_append_left _ (List.mem_append_right _ h)))))
  have hin0 : ∀ w ∈ wsX00, w ∈ wsX5_addWagons := fun w h => List.mem_cons_of_mem _ (List.mem_append_left _ (List.mem_append_left _ (List.mem_append_left _ (List.mem_append_right _ h))))
  have k10 : Cond.fieldLink RX5 10 "PeatRailway" "current" "LPeatRailway$State;" ∈ wsX5_addWagons := by decide +kernel
  have k172 : Cond.fieldLink RX5 172 "PeatRailway$State" "wagons" "[I" ∈ wsX5_addWagons := by decide +kernel
  have k22 : Cond.fieldLink RX5 22 "PeatRailway" "history" "LPeatRailway$History;" ∈ wsX5_addWagons := by decide +kernel
  have k204 : Cond.fieldLink RX5 204 "PeatRailway$State" "added" "I" ∈ wsX5_addWagons := by decide +kernel
  refine z_eq (ws' := SW κ Sa g ++ (RC ra (Sa 0) f9 h9 a9 b9 p9 o9 ++ [])) ?_ rfl rfl rfl rfl
  have hn1 := hv.n1
  have hn2 := hv.n2
  have ht9 := hv.trn hb
  refine z_aload_n C dX5_addWagons_0 0 rfl ?_
  refine z_iload_n C dX5_addWagons_1 1 rfl ?_
  refine z_callV C (mX5_requireTrain_ok l D κ Sa _ ra f9 h9 a9 b9 p9 o9 σ M b hr hv (by omega)) gX5_addWagons_X5_requireTrain rfl rfl rfl hdX5_requireTrain ⟨Nat.le_of_ble_eq_true rfl, Nat.le_of_ble_eq_true rfl⟩ 13 rfl rfl [] (fun _ => SW κ Sa g ++ (RC ra (Sa 0) f9 h9 a9 b9 p9 o9 ++ [])) (List.Perm.refl _) (fun _ => List.Perm.refl _) rfl (Nat.le_of_ble_eq_true rfl) dX5_addWagons_2 ⟨Nat.zero_le _, Nat.zero_le _⟩ (fun _ _ => ?_)
  refine z_iload_n C dX5_addWagons_5 2 rfl ?_
  refine z_iconst (v := nI 1) C dX5_addWagons_6 (by decide) ?_
  refine zn_icmp_lt C 16 dX5_addWagons_7 (by decide) (by omega) (by omega) (fun h1 => ?_) (fun h2 => ?_)
  · exfalso; omega
  · refine z_iload_n C dX5_addWagons_10 2 rfl ?_
    refine z_bipush (v := nI 11) C dX5_addWagons_11 (by decide) ?_
    refine zn_icmp_le C 26 dX5_addWagons_13 (by decide) (by omega) (by omega) (fun h3 => ?_) (fun h4 => ?_)
    · refine z_aload_n C dX5_addWagons_26 0 rfl ?_
      refine z_get C hin5 13 rfl rfl 0 (by decide) k10 rfl dX5_addWagons_27 ?_
      refine zs_get_wagons C hin4 k172 dX5_addWagons_30 ?_
      refine z_iload_n C dX5_addWagons_33 1 rfl ?_
      refine zs_ald_wagons C (x := σ (65 + 5 * b + 0)) (by omega) (hr.1.t13 (by omega)) dX5_addWagons_34 ?_
      refine z_iload_n C dX5_addWagons_35 2 rfl ?_
      refine zn_iadd C dX5_addWagons_36 ?_
      refine z_bipush (v := nI 12) C dX5_addWagons_37 (by decide) ?_
      refine zn_icmp_le C 52 dX5_addWagons_39 (by decide) (by omega) (by omega) (fun h5 => ?_) (fun h6 => ?_)
      · exfalso; omega
      · exact zx_throw C htab hk hls hX (E0 := eIS) (names := ["java/lang/RuntimeException", "java/lang/Exception"]) tf_IS tn_n (show Cond.classLink RX5 76 eIS ∈ wsX5_addWagons from by decide +kernel) (show Cond.initialized eIS ∈ wsX5_addWagons from by decide +kernel) (fun w h => List.mem_cons_of_mem _ (List.mem_append_left _ (List.mem_append_right _ h))) tb_IS tc_IS tg_IS 20 (by decide) rfl rfl dX5_addWagons_42 dX5_addWagons_45 dX5_addWagons_46 dX5_addWagons_48 dX5_addWagons_51 (Nat.le_of_ble_eq_true rfl) (Nat.le_of_ble_eq_true rfl) (Nat.le_of_ble_eq_true rfl) (Nat.le_of_ble_eq_true rfl) (Nat.le_of_ble_eq_true rfl) (Nat.le_of_ble_eq_true rfl) (()) (trivial) (List.Perm.of_eq rfl)
    · exfalso; omega
set_option maxRecDepth 100000 in
set_option maxHeartbeats 4000000 in
theorem mX5_setTopSpeed_rng (l : Launch) (D : va_G) (κ : Nat → ClassId) (adK adV : Nat → Nat) (Sa : Nat → Nat) (g : Nat → Nat → Nat) (ra f9 h9 a9 b9 p9 o9 : Nat) (σ : Nat → Nat) (M : Nat) (b : Nat) (x : Int32) (hls : l.stackTraces = false) (hr : Rep g σ) (hv : Inv M σ) (hb : b < σ 2) (hx : inI x (nI 1) (nI 5) = false) : zX (aX adK adV) l yX5_setTopSpeed wsX5_setTopSpeed { frames := 6, cells := 1, slots := 6, locals := 103 } D (zTy κ) [.ref (ra), .int (nI b), .int (x)] (SW κ Sa g ++ (RC ra (Sa 0) f9 h9 a9 b9 p9 o9)) eIA (S := Unit) (fun _ => True) (fun _ => SW κ Sa g ++ (RC ra (Sa 0) f9 h9 a9 b9 p9 o9)) 1 6 := by
  refine zX_of (cc := cX5_setTopSpeed) (maxL := 4) (rt := (some .int)) [(0, .ref (ra)), (1, .int (nI b)), (2, .int (x))] (by decide +kernel) rfl (Nat.le_of_ble_eq_true rfl) rfl ?_
  intro p e s m args below meth c A C hk htab hX
  have C : zC p s m args c cX5_setTopSpeed 4 wsX5_setTopSpeed RX5 D (zTy κ) A := C
  have hin5 : ∀ w ∈ wsX50, w ∈ wsX5_setTopSpeed := fun w h => List.mem_cons_of_mem _ (List.mem_append_left _ (List.mem_append_left _ (List.mem_append_left _ (List.mem_append_left _ (List.mem_append_right _ h)))))
  have hin4 : ∀ w ∈ wsX40, w ∈ wsX5_setTopSpeed := fun w h => List.mem_cons_of_mem _ (List.mem_append_left _ (List.mem_append_left _ (List.mem_append_left _ (List.mem_append_right _ h))))
  have hin0 : ∀ w ∈ wsX00, w ∈ wsX5_setTopSpeed := fun w h => List.mem_cons_of_mem _ (List.mem_append_left _ (List.mem_append_left _ (List.mem_append_right _ h)))
  have k22 : Cond.fieldLink RX5 22 "PeatRailway" "history" "LPeatRailway$History;" ∈ wsX5_setTopSpeed := by decide +kernel
  have k10 : Cond.fieldLink RX5 10 "PeatRailway" "current" "LPeatRailway$State;" ∈ wsX5_setTopSpeed := by decide +kernel
  have k175 : Cond.fieldLink RX5 175 "PeatRailway$State" "topSpeed" "[I" ∈ wsX5_setTopSpeed := by decide +kernel
  refine z_eq (ws' := SW κ Sa g ++ (RC ra (Sa 0) f9 h9 a9 b9 p9 o9 ++ [])) ?_ rfl rfl rfl rfl
  have hn1 := hv.n1
  have hn2 := hv.n2
  refine z_aload_n C dX5_setTopSpeed_0 0 rfl ?_
  refine z_iload_n C dX5_setTopSpeed_1 1 rfl ?_
  refine z_callV C (mX5_requireTrain_ok l D κ Sa _ ra f9 h9 a9 b9 p9 o9 σ M b hr hv (by omega)) gX5_setTopSpeed_X5_requireTrain rfl rfl rfl hdX5_requireTrain ⟨Nat.le_of_ble_eq_true rfl, Nat.le_of_ble_eq_true rfl⟩ 13 rfl rfl [] (fun _ => SW κ Sa g ++ (RC ra (Sa 0) f9 h9 a9 b9 p9 o9 ++ [])) (List.Perm.refl _) (fun _ => List.Perm.refl _) rfl (Nat.le_of_ble_eq_true rfl) dX5_setTopSpeed_2 ⟨Nat.zero_le _, Nat.zero_le _⟩ (fun _ _ => ?_)
  refine z_iload_n C dX5_setTopSpeed_5 2 rfl ?_
  refine z_iconst (v := nI 1) C dX5_setTopSpeed_6 (by decide) ?_
  refine z_icmp_lt C 15 dX5_setTopSpeed_7 (by decide) (fun h1 => ?_) (fun h2 => ?_)
  · exact zx_throw C htab hk hls hX (E0 := eIA) (names := ["java/lang/RuntimeException", "java/lang/Exception"]) tf_IA tn_n (show Cond.classLink RX5 95 eIA ∈ wsX5_setTopSpeed from by decide +kernel) (show Cond.initialized eIA ∈ wsX5_setTopSpeed from by decide +kernel) (fun w h => List.mem_cons_of_mem _ (List.mem_append_left _ (List.mem_append_right _ h))) tb_IA tc_IA tg_IA 21 (by decide) rfl rfl dX5_setTopSpeed_15 dX5_setTopSpeed_18 dX5_setTopSpeed_19 dX5_setTopSpeed_21 dX5_setTopSpeed_24 (Nat.le_of_ble_eq_true rfl) (Nat.le_of_ble_eq_true rfl) (Nat.le_of_ble_eq_true rfl) (Nat.le_of_ble_eq_true rfl) (Nat.le_of_ble_eq_true rfl) (Nat.le_of_ble_eq_true rfl) (()) (trivial) (List.Perm.of_eq rfl)
  · refine z_iload_n C dX5_setTopSpeed_10 2 rfl ?_
    refine z_iconst (v := nI 5) C dX5_setTopSpeed_11 (by decide) ?_
    refine z_icmp_le C 25 dX5_setTopSpeed_12 (by decide) (fun q => absurd ((inI_n x h2 (Int32.not_lt.mpr q)).symm.trans hx) (by decide)) (fun _ => ?_)
    exact zx_throw C htab hk hls hX (E0 := eIA) (names := ["java/lang/RuntimeException", "java/lang/Exception"]) tf_IA tn_n (show Cond.classLink RX5 95 eIA ∈ wsX5_setTopSpeed from by decide +kernel) (show Cond.initialized eIA ∈ wsX5_setTopSpeed from by decide +kernel) (fun w h => List.mem_cons_of_mem _ (List.mem_append_left _ (List.mem_append_right _ h))) tb_IA tc_IA tg_IA 21 (by decide) rfl rfl dX5_setTopSpeed_15 dX5_setTopSpeed_18 dX5_setTopSpeed_19 dX5_setTopSpeed_21 dX5_setTopSpeed_24 (Nat.le_of_ble_eq_true rfl) (Nat.le_of_ble_eq_true rfl) (Nat.le_of_ble_eq_true rfl) (Nat.le_of_ble_eq_true rfl) (Nat.le_of_ble_eq_true rfl) (Nat.le_of_ble_eq_true rfl) (()) (trivial) (List.Perm.of_eq rfl)
end X6
