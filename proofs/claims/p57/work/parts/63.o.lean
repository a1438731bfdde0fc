section O
theorem ni_i2c {k : Nat} (h : k < 128) : ((nI k).toUInt32 % 65536).toInt32 = nI k := (show ∀ k, k < 128 → ((nI k).toUInt32 % 65536).toInt32 = nI k by decide +kernel) k h
theorem pm_4 {α : Type} {A S R T : List α} : (A ++ ((S ++ R) ++ T)).Perm ((S ++ T) ++ (A ++ R)) := by
  classical
  exact List.perm_iff_count.mpr (fun x => by simp only [List.count_append]; omega)
theorem pm_5 {α : Type} {A S R T : List α} : (A ++ ((S ++ R) ++ T)).Perm ((T ++ S) ++ (A ++ R)) := by
  classical
  exact List.perm_iff_count.mpr (fun x => by simp only [List.count_append]; omega)
/-- a functional contract over the output alone -/
abbrev oM (l : Launch) (y : MethodName) (wsw : List Cond) (rm : Room) (D : va_G) (κ : Nat → ClassId) (Oa : Nat → Nat) (As : List Value) (n : Nat) (ot : Nat → Nat) (n' : Nat) (ot' : Nat → Nat) : Prop :=
  zM l y wsw rm D (zTy κ) (.ref (Oa 0) :: As) (OW κ Oa n ot) (S := Unit) (fun _ => none) (fun _ => True) (fun _ => OW κ Oa n' ot') 0 0
theorem hdX4_copyFrom9 : yX4_copyFrom.cls = RX4 ∧ yX4_copyFrom.cls ≠ "java/lang/invoke/MethodHandle" ∧ yX4_copyFrom.cls ≠ "java/lang/invoke/VarHandle" ∧ (parseMethodDescriptor yX4_copyFrom.desc).map (fun d => d.parameters.length) = some 1 := by decide +kernel
/-- the history's place ahead of nx -/
def bkN (nx : Nat) : Nat := if 0 < nx then nx - 1 else 9
def fwN (nx : Nat) : Nat := if nx + 1 < 10 then nx + 1 else 0
def mnN (ct : Nat) : Nat := if 10 < ct + 1 then 10 else ct + 1
set_option maxRecDepth 100000 in
set_option maxHeartbeats 4000000 in
theorem mX0_record (l : Launch) (D : va_G) (κ : Nat → ClassId) (Ha Sa : Nat → Nat) (Hs : Nat → Nat → Nat) (gh : Nat → Nat → Nat → Nat) (hf : Nat → Option Nat) (nx ct : Nat) (g : Nat → Nat → Nat) (hhf : ∀ j, j < 10 → hf j = some (Hs j 0)) (hnx : nx < 10) (hct : ct ≤ 10) : zM l yX0_record wsX0_record { frames := 2, cells := 0, slots := 0, locals := 48 } D (zTy κ) [.ref (Ha 0), .ref (Sa 0)] (HO κ Ha hf nx ct ++ (hW κ Hs gh 10 ++ SW κ Sa g)) (S := Nat → Nat) (fun _ => none) (fun q => ∀ j, j < 10 → g 8 j < 2 → q j = g 8 j) (fun q => HO κ Ha hf (fwN nx) (mnN ct) ++ (hW κ Hs (upS gh nx (upA g 8 q)) 10 ++ SW κ Sa g)) 0 0 := by
  refine zM_of (cc := cX0_record) (maxL := 3) (rt := none) [(0, .ref (Ha 0)), (1, .ref (Sa 0))] (by decide +kernel) rfl (Nat.le_of_ble_eq_true rfl) rfl ?_
  intro p e s m args below meth c A C hr9 hk hnm
  have C : zC p s m args c cX0_record 3 wsX0_record RX0 D (zTy κ) A := C
  have hin0 : ∀ w ∈ wsX00, w ∈ wsX0_record := fun w h => List.mem_cons_of_mem _ (List.mem_append_left _ (List.mem_append_right _ h))
  have hin4 : ∀ w ∈ wsX40, w ∈ wsX0_record := fun w h => List.mem_cons_of_mem _ (List.mem_append_right _ h)
  have k11 : Cond.fieldLink RX0 11 "PeatRailway$History" "states" "[LPeatRailway$State;" ∈ wsX0_record := by decide +kernel
  have k16 : Cond.fieldLink RX0 16 "PeatRailway$History" "next" "I" ∈ wsX0_record := by decide +kernel
  have k24 : Cond.fieldLink RX0 24 "PeatRailway$History" "count" "I" ∈ wsX0_record := by decide +kernel
  refine z_eq (ws' := HO κ Ha hf nx ct ++ (hW κ Hs gh 10 ++ SW κ Sa g)) ?_ rfl rfl rfl rfl
  refine z_aload_n C dX0_record_0 0 rfl ?_
  refine z_get C hin0 0 rfl rfl 0 (by decide) k11 rfl dX0_record_1 ?_
  refine z_aload_n C dX0_record_4 0 rfl ?_
  refine z_get C hin0 0 rfl rfl 1 (by decide) k16 rfl dX0_record_5 ?_
  refine z_aald C 1 3 rfl rfl (i := nx) (by omega) (by decide) (hhf (nx) (by omega)) dX0_record_8 ?_
  refine z_astore_n C [(2, .ref (Hs nx 0)), (0, .ref (Ha 0)), (1, .ref (Sa 0))] dX0_record_9 (by decide) rfl ?_
  refine z_aload_n C dX0_record_10 0 rfl ?_
  refine z_ifnonnull C 15 dX0_record_11 (by decide) ?_
  refine z_aload_n C dX0_record_15 0 rfl ?_
  refine z_aload_n C dX0_record_16 2 rfl ?_
  obtain ⟨rest, hrest⟩ := hW_at (κ := κ) (Hs := Hs) (gh := gh) 10 (show nx < 10 by omega)
  have hid := hrest (gh nx)
  rw [upS_id] at hid
  refine z_callV C (mX4_copyFrom l D κ (Hs nx) Sa (gh nx) g) gX0_record_X4_copyFrom rfl rfl rfl hdX4_copyFrom ⟨Nat.le_of_ble_eq_true rfl, Nat.le_of_ble_eq_true rfl⟩ 0 rfl rfl (HO κ Ha hf nx ct ++ rest) (fun q => HO κ Ha hf nx ct ++ (hW κ Hs (upS gh nx (upA g 8 q)) 10 ++ SW κ Sa g)) (((hid.append_right _).append_left _).trans pm_4) (fun q => pm_4.symm.trans (((hrest _).symm.append_right _).append_left _)) rfl (Nat.le_of_ble_eq_true rfl) dX0_record_17 ⟨Nat.zero_le _, Nat.zero_le _⟩ (fun q hq => ?_)
  refine z_aload_n C dX0_record_20 1 rfl ?_
  refine z_aload_n C dX0_record_21 1 rfl ?_
  refine z_get C hin0 0 rfl rfl 1 (by decide) k16 rfl dX0_record_22 ?_
  refine z_iconst (v := nI 1) C dX0_record_25 (by decide) ?_
  refine zn_iadd C dX0_record_26 ?_
  refine z_bipush (v := nI 10) C dX0_record_27 (by decide) ?_
  refine zn_icmp_ge C 41 dX0_record_29 (by decide) (by omega) (by omega) (fun h1 => ?_) (fun h2 => ?_)
  · refine z_iconst (v := nI 0) C dX0_record_41 (by decide) ?_
    refine z_put C hin0 tyX0 tyX0_ok nmX0 0 rfl rfl 1 (by decide) k16 rfl rfl rfl (Nat.le_of_ble_eq_true rfl) dX0_record_42 (HO κ Ha hf 0 ct ++ (hW κ Hs (upS gh nx (upA g 8 q)) 10 ++ SW κ Sa g)) rfl ?_
    refine z_aload_n C dX0_record_45 1 rfl ?_
    refine z_aload_n C dX0_record_46 1 rfl ?_
    refine z_get C hin0 0 rfl rfl 2 (by decide) k24 rfl dX0_record_47 ?_
    refine z_iconst (v := nI 1) C dX0_record_50 (by decide) ?_
    refine zn_iadd C dX0_record_51 ?_
    refine z_bipush (v := nI 10) C dX0_record_52 (by decide) ?_
    refine zn_min C (show Cond.methodLink RX0 27 Lib.Math.min.name ∈ wsX0_record from by decide +kernel) (by decide +kernel) (by decide +kernel) (by decide +kernel) (by omega) (by omega) ⟨Nat.le_of_ble_eq_true rfl, Nat.le_of_ble_eq_true rfl⟩ (Nat.le_of_ble_eq_true rfl) dX0_record_54 ⟨Nat.zero_le _, Nat.zero_le _⟩ ?_
    refine z_put C hin0 tyX0 tyX0_ok nmX0 0 rfl rfl 2 (by decide) k24 rfl rfl rfl (Nat.le_of_ble_eq_true rfl) dX0_record_57 (HO κ Ha hf 0 (if 10 < ct + 1 then 10 else ct + 1) ++ (hW κ Hs (upS gh nx (upA g 8 q)) 10 ++ SW κ Sa g)) rfl ?_
    exact z_vret C hr9 hk (q) (rfl) (hq) (List.Perm.of_eq (by simp only [fwN, mnN]; rw [if_neg (show ¬ nx + 1 < 10 by omega)])) dX0_record_60 (Nat.le_refl _) (Nat.le_refl _)
  · refine z_aload_n C dX0_record_32 1 rfl ?_
    refine z_get C hin0 0 rfl rfl 1 (by decide) k16 rfl dX0_record_33 ?_
    refine z_iconst (v := nI 1) C dX0_record_36 (by decide) ?_
    refine zn_iadd C dX0_record_37 ?_
    refine z_goto (tgt := 42) C dX0_record_38 (by decide) ?_
    refine z_put C hin0 tyX0 tyX0_ok nmX0 0 rfl rfl 1 (by decide) k16 rfl rfl rfl (Nat.le_of_ble_eq_true rfl) dX0_record_42 (HO κ Ha hf (nx + 1) ct ++ (hW κ Hs (upS gh nx (upA g 8 q)) 10 ++ SW κ Sa g)) rfl ?_
    refine z_aload_n C dX0_record_45 1 rfl ?_
    refine z_aload_n C dX0_record_46 1 rfl ?_
    refine z_get C hin0 0 rfl rfl 2 (by decide) k24 rfl dX0_record_47 ?_
    refine z_iconst (v := nI 1) C dX0_record_50 (by decide) ?_
    refine zn_iadd C dX0_record_51 ?_
    refine z_bipush (v := nI 10) C dX0_record_52 (by decide) ?_
    refine zn_min C (show Cond.methodLink RX0 27 Lib.Math.min.name ∈ wsX0_record from by decide +kernel) (by decide +kernel) (by decide +kernel) (by decide +kernel) (by omega) (by omega) ⟨Nat.le_of_ble_eq_true rfl, Nat.le_of_ble_eq_true rfl⟩ (Nat.le_of_ble_eq_true rfl) dX0_record_54 ⟨Nat.zero_le _, Nat.zero_le _⟩ ?_
    refine z_put C hin0 tyX0 tyX0_ok nmX0 0 rfl rfl 2 (by decide) k24 rfl rfl rfl (Nat.le_of_ble_eq_true rfl) dX0_record_57 (HO κ Ha hf (nx + 1) (if 10 < ct + 1 then 10 else ct + 1) ++ (hW κ Hs (upS gh nx (upA g 8 q)) 10 ++ SW κ Sa g)) rfl ?_
    exact z_vret C hr9 hk (q) (rfl) (hq) (List.Perm.of_eq (by simp only [fwN, mnN]; rw [if_pos (show nx + 1 < 10 by omega)])) dX0_record_60 (Nat.le_refl _) (Nat.le_refl _)
theorem hdX0_record : yX0_record.cls = RX0 ∧ yX0_record.cls ≠ "java/lang/invoke/MethodHandle" ∧ yX0_record.cls ≠ "java/lang/invoke/VarHandle" ∧ (parseMethodDescriptor yX0_record.desc).map (fun d => d.parameters.length) = some 1 := by decide +kernel
set_option maxRecDepth 100000 in
set_option maxHeartbeats 4000000 in
theorem mX0_takeBack (l : Launch) (D : va_G) (κ : Nat → ClassId) (Ha Sa : Nat → Nat) (Hs : Nat → Nat → Nat) (gh : Nat → Nat → Nat → Nat) (hf : Nat → Option Nat) (nx ct : Nat) (g : Nat → Nat → Nat) (hhf : ∀ j, j < 10 → hf j = some (Hs j 0)) (hnx : nx < 10) (hct : ct ≤ 10) (hc1 : 1 ≤ ct) : zM l yX0_takeBack wsX0_takeBack { frames := 2, cells := 0, slots := 0, locals := 48 } D (zTy κ) [.ref (Ha 0), .ref (Sa 0)] (HO κ Ha hf nx ct ++ (hW κ Hs gh 10 ++ SW κ Sa g)) (S := Nat → Nat) (fun _ => none) (fun q => ∀ j, j < 10 → gh (bkN nx) 8 j < 2 → q j = gh (bkN nx) 8 j) (fun q => HO κ Ha hf (bkN nx) (ct - 1) ++ (hW κ Hs gh 10 ++ SW κ Sa (upA (gh (bkN nx)) 8 q))) 0 0 := by
  refine zM_of (cc := cX0_takeBack) (maxL := 4) (rt := none) [(0, .ref (Ha 0)), (1, .ref (Sa 0))] (by decide +kernel) rfl (Nat.le_of_ble_eq_true rfl) rfl ?_
  intro p e s m args below meth c A C hr9 hk hnm
  have C : zC p s m args c cX0_takeBack 4 wsX0_takeBack RX0 D (zTy κ) A := C
  have hin0 : ∀ w ∈ wsX00, w ∈ wsX0_takeBack := fun w h => List.mem_cons_of_mem _ (List.mem_append_left _ (List.mem_append_right _ h))
  have hin4 : ∀ w ∈ wsX40, w ∈ wsX0_takeBack := fun w h => List.mem_cons_of_mem _ (List.mem_append_right _ h)
  have k16 : Cond.fieldLink RX0 16 "PeatRailway$History" "next" "I" ∈ wsX0_takeBack := by decide +kernel
  have k11 : Cond.fieldLink RX0 11 "PeatRailway$History" "states" "[LPeatRailway$State;" ∈ wsX0_takeBack := by decide +kernel
  have k24 : Cond.fieldLink RX0 24 "PeatRailway$History" "count" "I" ∈ wsX0_takeBack := by decide +kernel
  refine z_eq (ws' := HO κ Ha hf nx ct ++ (hW κ Hs gh 10 ++ SW κ Sa g)) ?_ rfl rfl rfl rfl
  refine z_aload_n C dX0_takeBack_0 0 rfl ?_
  refine z_get C hin0 0 rfl rfl 1 (by decide) k16 rfl dX0_takeBack_1 ?_
  refine zn_if_le C 16 dX0_takeBack_4 (by decide) (by omega) (fun h1 => ?_) (fun h2 => ?_)
  · refine z_bipush (v := nI 9) C dX0_takeBack_16 (by decide) ?_
    refine z_istore_n C [(2, .int (nI 9)), (0, .ref (Ha 0)), (1, .ref (Sa 0))] dX0_takeBack_18 (by decide) rfl ?_
    refine z_aload_n C dX0_takeBack_19 1 rfl ?_
    refine z_get C hin0 0 rfl rfl 0 (by decide) k11 rfl dX0_takeBack_20 ?_
    refine z_iload_n C dX0_takeBack_23 0 rfl ?_
    refine z_aald C 1 3 rfl rfl (i := 9) (by omega) (by decide) (hhf (9) (by omega)) dX0_takeBack_24 ?_
    refine z_astore_n C [(3, .ref (Hs 9 0)), (2, .int (nI 9)), (0, .ref (Ha 0)), (1, .ref (Sa 0))] dX0_takeBack_25 (by decide) rfl ?_
    refine z_aload_n C dX0_takeBack_26 0 rfl ?_
    refine z_ifnull C dX0_takeBack_27 ?_
    refine z_aload_n C dX0_takeBack_30 2 rfl ?_
    refine z_get C hin0 0 rfl rfl 2 (by decide) k24 rfl dX0_takeBack_31 ?_
    refine z_iconst (v := nI 1) C dX0_takeBack_34 (by decide) ?_
    refine zn_icmp_ge C 39 dX0_takeBack_35 (by decide) (by omega) (by omega) (fun h3 => ?_) (fun h4 => ?_)
    · refine z_aload_n C dX0_takeBack_39 3 rfl ?_
      refine z_aload_n C dX0_takeBack_40 0 rfl ?_
      obtain ⟨rest, hrest⟩ := hW_at (κ := κ) (Hs := Hs) (gh := gh) 10 (show 9 < 10 by omega)
      have hid := hrest (gh 9)
      rw [upS_id] at hid
      refine z_callV C (mX4_copyFrom l D κ Sa (Hs 9) g (gh 9)) gX0_takeBack_X4_copyFrom rfl rfl rfl hdX4_copyFrom ⟨Nat.le_of_ble_eq_true rfl, Nat.le_of_ble_eq_true rfl⟩ 0 rfl rfl (HO κ Ha hf nx ct ++ rest) (fun q => HO κ Ha hf nx ct ++ (hW κ Hs gh 10 ++ SW κ Sa (upA (gh 9) 8 q))) (((hid.append_right _).append_left _).trans pm_5) (fun q => pm_5.symm.trans ((hid.symm.append_right _).append_left _)) rfl (Nat.le_of_ble_eq_true rfl) dX0_takeBack_41 ⟨Nat.zero_le _, Nat.zero_le _⟩ (fun q hq => ?_)
      refine z_aload_n C dX0_takeBack_44 2 rfl ?_
      refine z_iload_n C dX0_takeBack_45 1 rfl ?_
      refine z_put C hin0 tyX0 tyX0_ok nmX0 0 rfl rfl 1 (by decide) k16 rfl rfl rfl (Nat.le_of_ble_eq_true rfl) dX0_takeBack_46 (HO κ Ha hf 9 ct ++ (hW κ Hs gh 10 ++ SW κ Sa (upA (gh 9) 8 q))) rfl ?_
      refine z_aload_n C dX0_takeBack_49 2 rfl ?_
      refine z_dup C dX0_takeBack_50 rfl ?_
      refine z_get C hin0 0 rfl rfl 2 (by decide) k24 rfl dX0_takeBack_51 ?_
      refine z_iconst (v := nI 1) C dX0_takeBack_54 (by decide) ?_
      refine zn_isub C dX0_takeBack_55 (by omega) ?_
      refine z_put C hin0 tyX0 tyX0_ok nmX0 0 rfl rfl 2 (by decide) k24 rfl rfl rfl (Nat.le_of_ble_eq_true rfl) dX0_takeBack_56 (HO κ Ha hf 9 (ct - 1) ++ (hW κ Hs gh 10 ++ SW κ Sa (upA (gh 9) 8 q))) rfl ?_
      exact z_vret C hr9 hk (q) (rfl) (by rw [show bkN nx = 9 from if_neg (by omega)]; exact hq) (List.Perm.of_eq (by rw [show bkN nx = 9 from if_neg (by omega)])) dX0_takeBack_59 (Nat.le_refl _) (Nat.le_refl _)
    · exfalso; omega
  · refine z_aload_n C dX0_takeBack_7 0 rfl ?_
    refine z_get C hin0 0 rfl rfl 1 (by decide) k16 rfl dX0_takeBack_8 ?_
    refine z_iconst (v := nI 1) C dX0_takeBack_11 (by decide) ?_
    refine zn_isub C dX0_takeBack_12 (by omega) ?_
    refine z_goto (tgt := 18) C dX0_takeBack_13 (by decide) ?_
    refine z_istore_n C [(2, .int (nI (nx - 1))), (0, .ref (Ha 0)), (1, .ref (Sa 0))] dX0_takeBack_18 (by decide) rfl ?_
    refine z_aload_n C dX0_takeBack_19 1 rfl ?_
    refine z_get C hin0 0 rfl rfl 0 (by decide) k11 rfl dX0_takeBack_20 ?_
    refine z_iload_n C dX0_takeBack_23 0 rfl ?_
    refine z_aald C 1 3 rfl rfl (i := nx - 1) (by omega) (by decide) (hhf (nx - 1) (by omega)) dX0_takeBack_24 ?_
    refine z_astore_n C [(3, .ref (Hs (nx - 1) 0)), (2, .int (nI (nx - 1))), (0, .ref (Ha 0)), (1, .ref (Sa 0))] dX0_takeBack_25 (by decide) rfl ?_
    refine z_aload_n C dX0_takeBack_26 0 rfl ?_
    refine z_ifnull C dX0_takeBack_27 ?_
    refine z_aload_n C dX0_takeBack_30 2 rfl ?_
    refine z_get C hin0 0 rfl rfl 2 (by decide) k24 rfl dX0_takeBack_31 ?_
    refine z_iconst (v := nI 1) C dX0_takeBack_34 (by decide) ?_
    refine zn_icmp_ge C 39 dX0_takeBack_35 (by decide) (by omega) (by omega) (fun h5 => ?_) (fun h6 => ?_)
    · refine z_aload_n C dX0_takeBack_39 3 rfl ?_
      refine z_aload_n C dX0_takeBack_40 0 rfl ?_
      obtain ⟨rest, hrest⟩ := hW_at (κ := κ) (Hs := Hs) (gh := gh) 10 (show (nx - 1) < 10 by omega)
      have hid := hrest (gh (nx - 1))
      rw [upS_id] at hid
      refine z_callV C (mX4_copyFrom l D κ Sa (Hs (nx - 1)) g (gh (nx - 1))) gX0_takeBack_X4_copyFrom rfl rfl rfl hdX4_copyFrom ⟨Nat.le_of_ble_eq_true rfl, Nat.le_of_ble_eq_true rfl⟩ 0 rfl rfl (HO κ Ha hf nx ct ++ rest) (fun q => HO κ Ha hf nx ct ++ (hW κ Hs gh 10 ++ SW κ Sa (upA (gh (nx - 1)) 8 q))) (((hid.append_right _).append_left _).trans pm_5) (fun q => pm_5.symm.trans ((hid.symm.append_right _).append_left _)) rfl (Nat.le_of_ble_eq_true rfl) dX0_takeBack_41 ⟨Nat.zero_le _, Nat.zero_le _⟩ (fun q hq => ?_)
      refine z_aload_n C dX0_takeBack_44 2 rfl ?_
      refine z_iload_n C dX0_takeBack_45 1 rfl ?_
      refine z_put C hin0 tyX0 tyX0_ok nmX0 0 rfl rfl 1 (by decide) k16 rfl rfl rfl (Nat.le_of_ble_eq_true rfl) dX0_takeBack_46 (HO κ Ha hf (nx - 1) ct ++ (hW κ Hs gh 10 ++ SW κ Sa (upA (gh (nx - 1)) 8 q))) rfl ?_
      refine z_aload_n C dX0_takeBack_49 2 rfl ?_
      refine z_dup C dX0_takeBack_50 rfl ?_
      refine z_get C hin0 0 rfl rfl 2 (by decide) k24 rfl dX0_takeBack_51 ?_
      refine z_iconst (v := nI 1) C dX0_takeBack_54 (by decide) ?_
      refine zn_isub C dX0_takeBack_55 (by omega) ?_
      refine z_put C hin0 tyX0 tyX0_ok nmX0 0 rfl rfl 2 (by decide) k24 rfl rfl rfl (Nat.le_of_ble_eq_true rfl) dX0_takeBack_56 (HO κ Ha hf (nx - 1) (ct - 1) ++ (hW κ Hs gh 10 ++ SW κ Sa (upA (gh (nx - 1)) 8 q))) rfl ?_
      exact z_vret C hr9 hk (q) (rfl) (by rw [show bkN nx = nx - 1 from if_pos (by omega)]; exact hq) (List.Perm.of_eq (by rw [show bkN nx = nx - 1 from if_pos (by omega)])) dX0_takeBack_59 (Nat.le_refl _) (Nat.le_refl _)
    · exfalso; omega
theorem hdX0_takeBack : yX0_takeBack.cls = RX0 ∧ yX0_takeBack.cls ≠ "java/lang/invoke/MethodHandle" ∧ yX0_takeBack.cls ≠ "java/lang/invoke/VarHandle" ∧ (parseMethodDescriptor yX0_takeBack.desc).map (fun d => d.parameters.length) = some 1 := by decide +kernel
set_option maxRecDepth 100000 in
set_option maxHeartbeats 4000000 in
theorem mX0_forget (l : Launch) (D : va_G) (κ : Nat → ClassId) (Ha : Nat → Nat) (hf : Nat → Option Nat) (nx ct : Nat)  : zM l yX0_forget wsX0_forget { frames := 0, cells := 0, slots := 0, locals := 0 } D (zTy κ) [.ref (Ha 0)] (HO κ Ha hf nx ct) (S := Unit) (fun _ => none) (fun _ => True) (fun _ => HO κ Ha hf nx 0) 0 0 := by
  refine zM_of (cc := cX0_forget) (maxL := 1) (rt := none) [(0, .ref (Ha 0))] (by decide +kernel) rfl (Nat.le_of_ble_eq_true rfl) rfl ?_
  intro p e s m args below meth c A C hr9 hk hnm
  have C : zC p s m args c cX0_forget 1 wsX0_forget RX0 D (zTy κ) A := C
  have hin0 : ∀ w ∈ wsX00, w ∈ wsX0_forget := fun w h => List.mem_cons_of_mem _ (List.mem_append_right _ h)
  have k24 : Cond.fieldLink RX0 24 "PeatRailway$History" "count" "I" ∈ wsX0_forget := by decide +kernel
  refine z_eq (ws' := HO κ Ha hf nx ct ++ []) ?_ rfl rfl rfl rfl
  refine z_aload_n C dX0_forget_0 0 rfl ?_
  refine z_iconst (v := nI 0) C dX0_forget_1 (by decide) ?_
  refine z_put C hin0 tyX0 tyX0_ok nmX0 0 rfl rfl 2 (by decide) k24 rfl rfl rfl (Nat.le_of_ble_eq_true rfl) dX0_forget_2 (HO κ Ha hf nx 0 ++ []) rfl ?_
  exact z_vret C hr9 hk (()) (rfl) (trivial) (List.Perm.of_eq rfl) dX0_forget_5 (Nat.le_refl _) (Nat.le_refl _)
theorem hdX0_forget : yX0_forget.cls = RX0 ∧ yX0_forget.cls ≠ "java/lang/invoke/MethodHandle" ∧ yX0_forget.cls ≠ "java/lang/invoke/VarHandle" ∧ (parseMethodDescriptor yX0_forget.desc).map (fun d => d.parameters.length) = some 0 := by decide +kernel
end O
