section X9
theorem pl_1 {α : Type} {S R H A B W P : List α} : (S ++ (R ++ (H ++ (A ++ (B ++ (W ++ P)))))).Perm ((W ++ P) ++ (S ++ (R ++ (H ++ (A ++ B))))) := by
  classical
  exact List.perm_iff_count.mpr (fun x => by simp only [List.count_append]; omega)
theorem pl_2 {α : Type} {S R H A B W P : List α} : (S ++ (R ++ (H ++ (A ++ (B ++ (W ++ P)))))).Perm ((S ++ W) ++ (R ++ (H ++ (A ++ (B ++ P))))) := by
  classical
  exact List.perm_iff_count.mpr (fun x => by simp only [List.count_append]; omega)
theorem pl_3 {α : Type} {S R H A B W P : List α} : (S ++ (R ++ (H ++ (A ++ (B ++ (W ++ P)))))).Perm (H ++ (S ++ (R ++ (A ++ (B ++ (W ++ P)))))) := by
  classical
  exact List.perm_iff_count.mpr (fun x => by simp only [List.count_append]; omega)
set_option maxRecDepth 100000 in
set_option maxHeartbeats 4000000 in
theorem mX5_load_ok (l : Launch) (D : va_G) (κ : Nat → ClassId) (adK adV : Nat → Nat) (Sa Ha Pa Pr : Nat → Nat) (hf : Nat → Option Nat) (ra f9 la lb o9 s1 s2 nx ct fa fb : Nat) (g gp : Nat → Nat → Nat) (eo : Int32) (v : Nat → Nat) (tx : Nat → Int32) (n : Nat) (τ : Nat → Nat) (hn : n ≤ v 1) (h600 : v 1 ≤ 600) (hpt : pText tx n = .inr τ) : zMc (cX adK adV) l yX5_load wsX5_load { frames := 8, cells := 0, slots := 0, locals := 173 } D (zTy κ) [.ref ra, .int (nI n)] (SW κ Sa g ++ (RC ra (Sa 0) f9 (Ha 0) la lb (Pa 0) o9 ++ (HO κ Ha hf nx ct ++ (SO la s1 fa ++ (SO lb s2 fb ++ (SW κ Pr gp ++ PW κ Pa Pr eo v tx)))))) (S := (Nat → Nat → Nat) × (Nat → Nat → Nat) × Int32 × (Nat → Nat)) (fun _ => some (.int (nI (τ 1)))) (fun u => Rep u.1 τ ∧ Inv (20 + 1100 * n) τ ∧ τ 0 ≤ 9999 ∧ u.2.2.1 = -1 ∧ u.2.2.2 1 = 0 ∧ u.2.2.2 2 = 0) (fun u => SW κ Sa u.1 ++ (RC ra (Sa 0) f9 (Ha 0) la lb (Pa 0) o9 ++ (HO κ Ha hf nx 0 ++ (SO la s1 0 ++ (SO lb s2 0 ++ (SW κ Pr u.2.1 ++ PW κ Pa Pr u.2.2.1 u.2.2.2 tx)))))) 0 0 := by
  refine zMc_of (cc := cX5_load) (maxL := 2) (rt := (some .int)) [(0, .ref (ra)), (1, .int (nI n))] (by decide +kernel) rfl (Nat.le_of_ble_eq_true rfl) rfl ?_
  intro p e s m args below meth c A C hr9 hk hnm hX
  have C : zC p s m args c cX5_load 2 wsX5_load RX5 D (zTy κ) A := C
  have hin5 : ∀ w ∈ wsX50, w ∈ wsX5_load := fun w h => List.mem_cons_of_mem _ (List.mem_append_left _ (List.mem_append_left _ (List.mem_append_left _ (List.mem_append_left _ (List.mem_append_left _ (List.mem_append_left _ (List.mem_append_left _ (List.mem_append_right _ h))))))))
  have hin2 : ∀ w ∈ wsX20, w ∈ wsX5_load := fun w h => List.mem_cons_of_mem _ (List.mem_append_left _ (List.mem_append_left _ (List.mem_append_left _ (List.mem_append_left _ (List.mem_append_left _ (List.mem_append_left _ (List.mem_append_right _ h)))))))
  have hin3 : ∀ w ∈ wsX30, w ∈ wsX5_load := fun w h => List.mem_cons_of_mem _ (List.mem_append_left _ (List.mem_append_left _ (List.mem_append_left _ (List.mem_append_left _ (List.mem_append_left _ (List.mem_append_right _ h))))))
  have hin4 : ∀ w ∈ wsX40, w ∈ wsX5_load := fun w h => List.mem_cons_of_mem _ (List.mem_append_left _ (List.mem_append_left _ (List.mem_append_left _ (List.mem_append_left _ (List.mem_append_right _ h)))))
  have hin0 : ∀ w ∈ wsX00, w ∈ wsX5_load := fun w h => List.mem_cons_of_mem _ (List.mem_append_left _ (List.mem_append_left _ (List.mem_append_right _ h)))
  have k39 : Cond.fieldLink RX5 39 "PeatRailway" "parser" "LPeatRailway$Parser;" ∈ wsX5_load := by decide +kernel
  have k86 : Cond.fieldLink RX5 86 "PeatRailway$Parser" "filled" "I" ∈ wsX5_load := by decide +kernel
  have k10 : Cond.fieldLink RX5 10 "PeatRailway" "current" "LPeatRailway$State;" ∈ wsX5_load := by decide +kernel
  have k66 : Cond.fieldLink RX5 66 "PeatRailway$Parser" "result" "LPeatRailway$State;" ∈ wsX5_load := by decide +kernel
  have k22 : Cond.fieldLink RX5 22 "PeatRailway" "history" "LPeatRailway$History;" ∈ wsX5_load := by decide +kernel
  have k29 : Cond.fieldLink RX5 29 "PeatRailway" "firstSlot" "LPeatRailway$Slot;" ∈ wsX5_load := by decide +kernel
  have k103 : Cond.fieldLink RX5 103 "PeatRailway$Slot" "full" "Z" ∈ wsX5_load := by decide +kernel
  have k33 : Cond.fieldLink RX5 33 "PeatRailway" "secondSlot" "LPeatRailway$Slot;" ∈ wsX5_load := by decide +kernel
  have k107 : Cond.fieldLink RX5 107 "PeatRailway$State" "blockCount" "I" ∈ wsX5_load := by decide +kernel
  refine z_eq (ws' := SW κ Sa g ++ (RC ra (Sa 0) f9 (Ha 0) la lb (Pa 0) o9 ++ (HO κ Ha hf nx ct ++ (SO la s1 fa ++ (SO lb s2 fb ++ (SW κ Pr gp ++ PW κ Pa Pr eo v tx)))))) ?_ rfl rfl rfl rfl
  refine z_iload_n C dX5_load_0 1 rfl ?_
  refine zn_if_lt C 15 dX5_load_1 (by decide) (by omega) ?_
  refine z_iload_n C dX5_load_4 1 rfl ?_
  refine z_aload_n C dX5_load_5 0 rfl ?_
  refine z_get C hin5 13 rfl rfl 5 (by decide) k39 rfl dX5_load_6 ?_
  refine z_get C hin2 31 rfl rfl 1 (by decide) k86 rfl dX5_load_9 ?_
  refine zn_icmp_le C 25 dX5_load_12 (by decide) (by omega) (by omega) (fun h1 => ?_) (fun h2 => ?_)
  · refine z_aload_n C dX5_load_25 0 rfl ?_
    refine z_get C hin5 13 rfl rfl 5 (by decide) k39 rfl dX5_load_26 ?_
    refine z_iload_n C dX5_load_29 1 rfl ?_
    refine z_callVc C (cX_ok adK adV) hX (mX2_parseText l D κ adK adV Pa Pr gp eo v tx n (by omega) (by omega)) gX5_load_X2_parseText rfl rfl rfl hdX2_parseText ⟨Nat.le_of_ble_eq_true rfl, Nat.le_of_ble_eq_true rfl⟩ 13 rfl rfl (SW κ Sa g ++ (RC ra (Sa 0) f9 (Ha 0) la lb (Pa 0) o9 ++ (HO κ Ha hf nx ct ++ (SO la s1 fa ++ SO lb s2 fb)))) (fun u => SW κ Sa g ++ (RC ra (Sa 0) f9 (Ha 0) la lb (Pa 0) o9 ++ (HO κ Ha hf nx ct ++ (SO la s1 fa ++ (SO lb s2 fb ++ (SW κ Pr (u.1) ++ PW κ Pa Pr (u.2.1) (u.2.2) tx)))))) pl_1 (fun _ => pl_1.symm) rfl (Nat.le_of_ble_eq_true rfl) dX5_load_30 ⟨Nat.zero_le _, Nat.zero_le _⟩ (fun u hu => ?_)
    obtain ⟨gp2, eo2, v2⟩ := u
    rw [hpt] at hu
    obtain ⟨hrp, hip, h99, heo, hv1, hv2⟩ := hu
    dsimp only at hrp hip h99 heo hv1 hv2 ⊢
    rw [okT_r hpt]
    refine z_if_ne C 46 dX5_load_33 (by decide) (fun _ => ?_) (fun q => absurd q (by decide))
    refine z_aload_n C dX5_load_46 0 rfl ?_
    refine z_get C hin5 13 rfl rfl 0 (by decide) k10 rfl dX5_load_47 ?_
    refine z_aload_n C dX5_load_50 0 rfl ?_
    refine z_get C hin5 13 rfl rfl 5 (by decide) k39 rfl dX5_load_51 ?_
    refine z_get C hin2 31 rfl rfl 4 (by decide) k66 rfl dX5_load_54 ?_
    refine z_callV C (mX4_copyFrom l D κ Sa Pr g gp2) gX5_load_X4_copyFrom rfl rfl rfl hdX4_copyFrom ⟨Nat.le_of_ble_eq_true rfl, Nat.le_of_ble_eq_true rfl⟩ 0 rfl rfl (RC ra (Sa 0) f9 (Ha 0) la lb (Pa 0) o9 ++ (HO κ Ha hf nx ct ++ (SO la s1 fa ++ (SO lb s2 fb ++ PW κ Pa Pr eo2 v2 tx)))) (fun q => SW κ Sa (upA gp2 8 q) ++ (RC ra (Sa 0) f9 (Ha 0) la lb (Pa 0) o9 ++ (HO κ Ha hf nx ct ++ (SO la s1 fa ++ (SO lb s2 fb ++ (SW κ Pr gp2 ++ PW κ Pa Pr eo2 v2 tx)))))) pl_2 (fun _ => pl_2.symm) rfl (Nat.le_of_ble_eq_true rfl) dX5_load_57 ⟨Nat.zero_le _, Nat.zero_le _⟩ (fun q hq => ?_)
    have hr2 := Rep_cp hrp hip hq
    refine z_aload_n C dX5_load_60 0 rfl ?_
    refine z_get C hin5 13 rfl rfl 2 (by decide) k22 rfl dX5_load_61 ?_
    refine z_callV C (mX0_forget l D κ Ha hf nx ct) gX5_load_X0_forget rfl rfl rfl hdX0_forget ⟨Nat.le_of_ble_eq_true rfl, Nat.le_of_ble_eq_true rfl⟩ 0 rfl rfl (SW κ Sa (upA gp2 8 q) ++ (RC ra (Sa 0) f9 (Ha 0) la lb (Pa 0) o9 ++ (SO la s1 fa ++ (SO lb s2 fb ++ (SW κ Pr gp2 ++ PW κ Pa Pr eo2 v2 tx))))) (fun _ => SW κ Sa (upA gp2 8 q) ++ (RC ra (Sa 0) f9 (Ha 0) la lb (Pa 0) o9 ++ (HO κ Ha hf nx 0 ++ (SO la s1 fa ++ (SO lb s2 fb ++ (SW κ Pr gp2 ++ PW κ Pa Pr eo2 v2 tx)))))) pl_3 (fun _ => pl_3.symm) rfl (Nat.le_of_ble_eq_true rfl) dX5_load_64 ⟨Nat.zero_le _, Nat.zero_le _⟩ (fun _ _ => ?_)
    refine z_aload_n C dX5_load_67 0 rfl ?_
    refine z_get C hin5 13 rfl rfl 3 (by decide) k29 rfl dX5_load_68 ?_
    refine z_iconst (v := nI 0) C dX5_load_71 (by decide) ?_
    refine z_put C hin3 tyX3 tyX3_ok nmX3 16 rfl rfl 1 (by decide) k103 rfl rfl rfl (Nat.le_of_ble_eq_true rfl) dX5_load_72 (SW κ Sa (upA gp2 8 q) ++ (RC ra (Sa 0) f9 (Ha 0) la lb (Pa 0) o9 ++ (HO κ Ha hf nx 0 ++ (SO la s1 0 ++ (SO lb s2 fb ++ (SW κ Pr gp2 ++ PW κ Pa Pr eo2 v2 tx)))))) rfl ?_
    refine z_aload_n C dX5_load_75 0 rfl ?_
    refine z_get C hin5 13 rfl rfl 4 (by decide) k33 rfl dX5_load_76 ?_
    refine z_iconst (v := nI 0) C dX5_load_79 (by decide) ?_
    refine z_put C hin3 tyX3 tyX3_ok nmX3 17 rfl rfl 1 (by decide) k103 rfl rfl rfl (Nat.le_of_ble_eq_true rfl) dX5_load_80 (SW κ Sa (upA gp2 8 q) ++ (RC ra (Sa 0) f9 (Ha 0) la lb (Pa 0) o9 ++ (HO κ Ha hf nx 0 ++ (SO la s1 0 ++ (SO lb s2 0 ++ (SW κ Pr gp2 ++ PW κ Pa Pr eo2 v2 tx)))))) rfl ?_
    refine z_aload_n C dX5_load_83 0 rfl ?_
    refine z_get C hin5 13 rfl rfl 0 (by decide) k10 rfl dX5_load_84 ?_
    refine zs_get_blockCount C hin4 (x := τ 1) k107 dX5_load_87 hr2.1.s1 ?_
    exact z_iret C hr9 hk ((upA gp2 8 q, gp2, eo2, v2)) (rfl) (⟨hr2, hip, h99, heo, hv1, hv2⟩) (List.Perm.of_eq rfl) dX5_load_90 (Nat.le_refl _) (Nat.le_refl _)
  · exfalso; omega
theorem hdX5_load : yX5_load.cls = RX5 ∧ yX5_load.cls ≠ "java/lang/invoke/MethodHandle" ∧ yX5_load.cls ≠ "java/lang/invoke/VarHandle" ∧ (parseMethodDescriptor yX5_load.desc).map (fun d => d.parameters.length) = some 1 := by decide +kernel
set_option maxRecDepth 100000 in
set_option maxHeartbeats 4000000 in
theorem mX5_load_err (l : Launch) (D : va_G) (κ : Nat → ClassId) (adK adV : Nat → Nat) (Sa Ha Pa Pr : Nat → Nat) (hf : Nat → Option Nat) (ra f9 la lb o9 s1 s2 nx ct fa fb : Nat) (g gp : Nat → Nat → Nat) (eo : Int32) (v : Nat → Nat) (tx : Nat → Int32) (n : Nat) (c0 e0 : Nat) (hls : l.stackTraces = false) (hn : n ≤ v 1) (h600 : v 1 ≤ 600) (hpt : pText tx n = .inl (c0, e0)) : zX (aX adK adV) l yX5_load wsX5_load { frames := 8, cells := 1, slots := 6, locals := 183 } D (zTy κ) [.ref (ra), .int (nI n)] (SW κ Sa g ++ (RC ra (Sa 0) f9 (Ha 0) la lb (Pa 0) o9 ++ (HO κ Ha hf nx ct ++ (SO la s1 fa ++ (SO lb s2 fb ++ (SW κ Pr gp ++ PW κ Pa Pr eo v tx)))))) eIA (S := (Nat → Nat → Nat) × Int32 × (Nat → Nat)) (fun u => u.2.1 = nI e0 ∧ u.2.2 1 = 0 ∧ u.2.2 2 = c0) (fun u => SW κ Sa g ++ (RC ra (Sa 0) f9 (Ha 0) la lb (Pa 0) o9 ++ (HO κ Ha hf nx ct ++ (SO la s1 fa ++ (SO lb s2 fb ++ (SW κ Pr u.1 ++ PW κ Pa Pr u.2.1 u.2.2 tx)))))) 1 6 := by
  refine zX_of (cc := cX5_load) (maxL := 2) (rt := (some .int)) [(0, .ref (ra)), (1, .int (nI n))] (by decide +kernel) rfl (Nat.le_of_ble_eq_true rfl) rfl ?_
  intro p e s m args below meth c A C hk htab hX
  have C : zC p s m args c cX5_load 2 wsX5_load RX5 D (zTy κ) A := C
  have hin5 : ∀ w ∈ wsX50, w ∈ wsX5_load := fun w h => List.mem_cons_of_mem _ (List.mem_append_left _ (List.mem_append_left _ (List.mem_append_left _ (List.mem_append_left _ (List.mem_append_left _ (List.mem_append_left _ (List.mem_append_left _ (List.mem_append_right _ h))))))))
  have hin2 : ∀ w ∈ wsX20, w ∈ wsX5_load := fun w h => List.mem_cons_of_mem _ (List.mem_append_left _ (List.mem_append_left _ (List.mem_append_left _ (List.mem_append_left _ (List.mem_append_left _ (List.mem_append_left _ (List.mem_append_right _ h)))))))
  have hin3 : ∀ w ∈ wsX30, w ∈ wsX5_load := fun w h => List.mem_cons_of_mem _ (List.mem_append_left _ (List.mem_append_left _ (List.mem_append_left _ (List.mem_append_left _ (List.mem_append_left _ (List.mem_append_right _ h))))))
  have hin4 : ∀ w ∈ wsX40, w ∈ wsX5_load := fun w h => List.mem_cons_of_mem _ (List.mem_append_left _ (List.mem_append_left _ (List.mem_append_left _ (List.mem_append_left _ (List.mem_append_right _ h)))))
  have hin0 : ∀ w ∈ wsX00, w ∈ wsX5_load := fun w h => List.mem_cons_of_mem _ (List.mem_append_left _ (List.mem_append_left _ (List.mem_append_right _ h)))
  have k39 : Cond.fieldLink RX5 39 "PeatRailway" "parser" "LPeatRailway$Parser;" ∈ wsX5_load := by decide +kernel
  have k86 : Cond.fieldLink RX5 86 "PeatRailway$Parser" "filled" "I" ∈ wsX5_load := by decide +kernel
  have k10 : Cond.fieldLink RX5 10 "PeatRailway" "current" "LPeatRailway$State;" ∈ wsX5_load := by decide +kernel
  have k66 : Cond.fieldLink RX5 66 "PeatRailway$Parser" "result" "LPeatRailway$State;" ∈ wsX5_load := by decide +kernel
  have k22 : Cond.fieldLink RX5 22 "PeatRailway" "history" "LPeatRailway$History;" ∈ wsX5_load := by decide +kernel
  have k29 : Cond.fieldLink RX5 29 "PeatRailway" "firstSlot" "LPeatRailway$Slot;" ∈ wsX5_load := by decide +kernel
  have k103 : Cond.fieldLink RX5 103 "PeatRailway$Slot" "full" "Z" ∈ wsX5_load := by decide +kernel
  have k33 : Cond.fieldLink RX5 33 "PeatRailway" "secondSlot" "LPeatRailway$Slot;" ∈ wsX5_load := by decide +kernel
  have k107 : Cond.fieldLink RX5 107 "PeatRailway$State" "blockCount" "I" ∈ wsX5_load := by decide +kernel
  refine z_eq (ws' := SW κ Sa g ++ (RC ra (Sa 0) f9 (Ha 0) la lb (Pa 0) o9 ++ (HO κ Ha hf nx ct ++ (SO la s1 fa ++ (SO lb s2 fb ++ (SW κ Pr gp ++ PW κ Pa Pr eo v tx)))))) ?_ rfl rfl rfl rfl
  refine z_iload_n C dX5_load_0 1 rfl ?_
  refine zn_if_lt C 15 dX5_load_1 (by decide) (by omega) ?_
  refine z_iload_n C dX5_load_4 1 rfl ?_
  refine z_aload_n C dX5_load_5 0 rfl ?_
  refine z_get C hin5 13 rfl rfl 5 (by decide) k39 rfl dX5_load_6 ?_
  refine z_get C hin2 31 rfl rfl 1 (by decide) k86 rfl dX5_load_9 ?_
  refine zn_icmp_le C 25 dX5_load_12 (by decide) (by omega) (by omega) (fun h1 => ?_) (fun h2 => ?_)
  · refine z_aload_n C dX5_load_25 0 rfl ?_
    refine z_get C hin5 13 rfl rfl 5 (by decide) k39 rfl dX5_load_26 ?_
    refine z_iload_n C dX5_load_29 1 rfl ?_
    refine z_callVc C (cX_ok adK adV) hX.1 (mX2_parseText l D κ adK adV Pa Pr gp eo v tx n (by omega) (by omega)) gX5_load_X2_parseText rfl rfl rfl hdX2_parseText ⟨Nat.le_of_ble_eq_true rfl, Nat.le_of_ble_eq_true rfl⟩ 13 rfl rfl (SW κ Sa g ++ (RC ra (Sa 0) f9 (Ha 0) la lb (Pa 0) o9 ++ (HO κ Ha hf nx ct ++ (SO la s1 fa ++ SO lb s2 fb)))) (fun u => SW κ Sa g ++ (RC ra (Sa 0) f9 (Ha 0) la lb (Pa 0) o9 ++ (HO κ Ha hf nx ct ++ (SO la s1 fa ++ (SO lb s2 fb ++ (SW κ Pr (u.1) ++ PW κ Pa Pr (u.2.1) (u.2.2) tx)))))) pl_1 (fun _ => pl_1.symm) rfl (Nat.le_of_ble_eq_true rfl) dX5_load_30 ⟨(Nat.le_of_ble_eq_true rfl), (Nat.le_of_ble_eq_true rfl)⟩ (fun u hu => ?_)
    obtain ⟨gp2, eo2, v2⟩ := u
    rw [hpt] at hu
    obtain ⟨heo, hv2, hv1⟩ := hu
    dsimp only at heo hv1 hv2 ⊢
    rw [okT_i hpt]
    refine z_if_ne C 46 dX5_load_33 (by decide) (fun q => absurd (by decide) q) (fun _ => ?_)
    exact zx_throw C htab hk hls hX (E0 := eIA) (names := ["java/lang/RuntimeException", "java/lang/Exception"]) tf_IA tn_n (show Cond.classLink RX5 95 eIA ∈ wsX5_load from by decide +kernel) (show Cond.initialized eIA ∈ wsX5_load from by decide +kernel) (fun w h => List.mem_cons_of_mem _ (List.mem_append_right _ h)) tb_IA tc_IA tg_IA 11 (by decide) rfl rfl dX5_load_36 dX5_load_39 dX5_load_40 dX5_load_42 dX5_load_45 (Nat.le_of_ble_eq_true rfl) (Nat.le_of_ble_eq_true rfl) (Nat.le_of_ble_eq_true rfl) (Nat.le_of_ble_eq_true rfl) (Nat.le_of_ble_eq_true rfl) (Nat.le_of_ble_eq_true rfl) ((gp2, eo2, v2)) (⟨heo, hv1, hv2⟩) (List.Perm.of_eq rfl)
  · exfalso; omega
set_option maxRecDepth 100000 in
set_option maxHeartbeats 4000000 in
theorem mX5_load_no (l : Launch) (D : va_G) (κ : Nat → ClassId) (adK adV : Nat → Nat) (Pa Pr : Nat → Nat) (ra c9 f9 h9 a9 b9 o9 : Nat) (eo : Int32) (v : Nat → Nat) (tx : Nat → Int32) (x : Int32) (hls : l.stackTraces = false) (h600 : v 1 ≤ 600) (hx : isB (v 1 + 1) x = false) : zX (aX adK adV) l yX5_load wsX5_load { frames := 6, cells := 1, slots := 6, locals := 82 } D (zTy κ) [.ref (ra), .int (x)] (RC ra c9 f9 h9 a9 b9 (Pa 0) o9 ++ (PW κ Pa Pr eo v tx)) eIB (S := Unit) (fun _ => True) (fun _ => RC ra c9 f9 h9 a9 b9 (Pa 0) o9 ++ (PW κ Pa Pr eo v tx)) 1 6 := by
  refine zX_of (cc := cX5_load) (maxL := 2) (rt := (some .int)) [(0, .ref (ra)), (1, .int (x))] (by decide +kernel) rfl (Nat.le_of_ble_eq_true rfl) rfl ?_
  intro p e s m args below meth c A C hk htab hX
  have C : zC p s m args c cX5_load 2 wsX5_load RX5 D (zTy κ) A := C
  have hin5 : ∀ w ∈ wsX50, w ∈ wsX5_load := fun w h => List.mem_cons_of_mem _ (List.mem_append_left _ (List.mem_append_left _ (List.mem_append_left _ (List.mem_append_left _ (List.mem_append_left _ (List.mem_append_left _ (List.mem_append_left _ (List.mem_append_right _ h))))))))
  have hin2 : ∀ w ∈ wsX20, w ∈ wsX5_load := fun w h => List.mem_cons_of_mem _ (List.mem_append_left _ (List.mem_append_left _ (List.mem_append_left _ (List.mem_append_left _ (List.mem_append_left _ (List.mem_append_left _ (List.mem_append_right _ h)))))))
  have hin3 : ∀ w ∈ wsX30, w ∈ wsX5_load := fun w h => List.mem_cons_of_mem _ (List.mem_append_left _ (List.mem_append_left _ (List.mem_append_left _ (List.mem_append_left _ (List.mem_append_left _ (List.mem_append_right _ h))))))
  have hin4 : ∀ w ∈ wsX40, w ∈ wsX5_load := fun w h => List.mem_cons_of_mem _ (List.mem_append_left _ (List.mem_append_left _ (List.mem_append_left _ (List.mem_append_left _ (List.mem_append_right _ h)))))
  have hin0 : ∀ w ∈ wsX00, w ∈ wsX5_load := fun w h => List.mem_cons_of_mem _ (List.mem_append_left _ (List.mem_append_left _ (List.mem_append_right _ h)))
  have k39 : Cond.fieldLink RX5 39 "PeatRailway" "parser" "LPeatRailway$Parser;" ∈ wsX5_load := by decide +kernel
  have k86 : Cond.fieldLink RX5 86 "PeatRailway$Parser" "filled" "I" ∈ wsX5_load := by decide +kernel
  have k10 : Cond.fieldLink RX5 10 "PeatRailway" "current" "LPeatRailway$State;" ∈ wsX5_load := by decide +kernel
  have k66 : Cond.fieldLink RX5 66 "PeatRailway$Parser" "result" "LPeatRailway$State;" ∈ wsX5_load := by decide +kernel
  have k22 : Cond.fieldLink RX5 22 "PeatRailway" "history" "LPeatRailway$History;" ∈ wsX5_load := by decide +kernel
  have k29 : Cond.fieldLink RX5 29 "PeatRailway" "firstSlot" "LPeatRailway$Slot;" ∈ wsX5_load := by decide +kernel
  have k103 : Cond.fieldLink RX5 103 "PeatRailway$Slot" "full" "Z" ∈ wsX5_load := by decide +kernel
  have k33 : Cond.fieldLink RX5 33 "PeatRailway" "secondSlot" "LPeatRailway$Slot;" ∈ wsX5_load := by decide +kernel
  have k107 : Cond.fieldLink RX5 107 "PeatRailway$State" "blockCount" "I" ∈ wsX5_load := by decide +kernel
  refine z_eq (ws' := RC ra c9 f9 h9 a9 b9 (Pa 0) o9 ++ (PW κ Pa Pr eo v tx ++ [])) ?_ rfl rfl rfl rfl
  refine z_iload_n C dX5_load_0 1 rfl ?_
  refine z_if_lt C 15 dX5_load_1 (by decide) (fun h1 => ?_) (fun h2 => ?_)
  · exact zx_throw C htab hk hls hX (E0 := eIB) (names := ["java/lang/RuntimeException", "java/lang/Exception"]) tf_IB tn_n (show Cond.classLink RX5 90 eIB ∈ wsX5_load from by decide +kernel) (show Cond.initialized eIB ∈ wsX5_load from by decide +kernel) (fun w h => List.mem_cons_of_mem _ (List.mem_append_left _ (List.mem_append_right _ h))) tb_IB tc_IB tg_IB 10 (by decide) rfl rfl dX5_load_15 dX5_load_18 dX5_load_19 dX5_load_21 dX5_load_24 (Nat.le_of_ble_eq_true rfl) (Nat.le_of_ble_eq_true rfl) (Nat.le_of_ble_eq_true rfl) (Nat.le_of_ble_eq_true rfl) (Nat.le_of_ble_eq_true rfl) (Nat.le_of_ble_eq_true rfl) (()) (trivial) (List.Perm.of_eq rfl)
  · refine z_iload_n C dX5_load_4 1 rfl ?_
    refine z_aload_n C dX5_load_5 0 rfl ?_
    refine z_get C hin5 0 rfl rfl 5 (by decide) k39 rfl dX5_load_6 ?_
    refine z_get C hin2 1 rfl rfl 1 (by decide) k86 rfl dX5_load_9 ?_
    refine z_icmp_le C 25 dX5_load_12 (by decide) (fun q => absurd q (isB_le (by omega) hx h2)) (fun _ => ?_)
    exact zx_throw C htab hk hls hX (E0 := eIB) (names := ["java/lang/RuntimeException", "java/lang/Exception"]) tf_IB tn_n (show Cond.classLink RX5 90 eIB ∈ wsX5_load from by decide +kernel) (show Cond.initialized eIB ∈ wsX5_load from by decide +kernel) (fun w h => List.mem_cons_of_mem _ (List.mem_append_left _ (List.mem_append_right _ h))) tb_IB tc_IB tg_IB 10 (by decide) rfl rfl dX5_load_15 dX5_load_18 dX5_load_19 dX5_load_21 dX5_load_24 (Nat.le_of_ble_eq_true rfl) (Nat.le_of_ble_eq_true rfl) (Nat.le_of_ble_eq_true rfl) (Nat.le_of_ble_eq_true rfl) (Nat.le_of_ble_eq_true rfl) (Nat.le_of_ble_eq_true rfl) (()) (trivial) (List.Perm.of_eq rfl)
end X9
