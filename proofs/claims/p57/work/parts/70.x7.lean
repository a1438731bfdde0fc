section X7
theorem pm_7 {α : Type} {S R L O W : List α} : (S ++ (R ++ (L ++ (O ++ W)))).Perm ((O ++ (W ++ S)) ++ (R ++ L)) := by
  classical
  exact List.perm_iff_count.mpr (fun x => by simp only [List.count_append]; omega)
theorem pm_8 {α : Type} {S R T O W : List α} : (S ++ (R ++ ((T ++ O) ++ W))).Perm ((S ++ T) ++ (R ++ (O ++ W))) := by
  classical
  exact List.perm_iff_count.mpr (fun x => by simp only [List.count_append]; omega)
theorem pm_9 {α : Type} {S R T O : List α} : (S ++ (R ++ (T ++ O))).Perm ((T ++ S) ++ (R ++ O)) := by
  classical
  exact List.perm_iff_count.mpr (fun x => by simp only [List.count_append]; omega)
theorem pm_w {α : Type} {S R O : List α} : (S ++ (R ++ O)).Perm (O ++ (S ++ R)) := by
  classical
  exact List.perm_iff_count.mpr (fun x => by simp only [List.count_append]; omega)
def slA (k a b : Nat) : Nat := if k = 0 then a else b
abbrev SO (la x f : Nat) : va_W := [(la, .inr (3, [.ref x, .int (nI f)]))]
set_option maxRecDepth 100000 in
set_option maxHeartbeats 4000000 in
theorem mX5_requireSlot_ok (l : Launch) (D : va_G) (κ : Nat → ClassId) (ra c9 f9 h9 a9 b9 p9 o9 : Nat) (k : Nat) (hk2 : k < 2) : zM l yX5_requireSlot wsX5_requireSlot { frames := 0, cells := 0, slots := 0, locals := 0 } D (zTy κ) [.ref ra, .int (nI k)] (RC ra c9 f9 h9 a9 b9 p9 o9) (S := Unit) (fun _ => none) (fun _ => True) (fun _ => RC ra c9 f9 h9 a9 b9 p9 o9) 0 0 := by
  refine zM_of (cc := cX5_requireSlot) (maxL := 2) (rt := none) [(0, .ref (ra)), (1, .int (nI k))] (by decide +kernel) rfl (Nat.le_of_ble_eq_true rfl) rfl ?_
  intro p e s m args below meth c A C hr9 hk hnm
  have C : zC p s m args c cX5_requireSlot 2 wsX5_requireSlot RX5 D (zTy κ) A := C
  refine z_eq (ws' := RC ra c9 f9 h9 a9 b9 p9 o9 ++ []) ?_ rfl rfl rfl rfl
  refine z_iload_n C dX5_requireSlot_0 1 rfl ?_
  refine zn_if_eq C 20 dX5_requireSlot_1 (by decide) (by omega) (fun h1 => ?_) (fun h2 => ?_)
  · exact z_vret C hr9 hk (()) (rfl) (trivial) (List.Perm.of_eq rfl) dX5_requireSlot_20 (Nat.le_refl _) (Nat.le_refl _)
  · refine z_iload_n C dX5_requireSlot_4 1 rfl ?_
    refine z_iconst (v := nI 1) C dX5_requireSlot_5 (by decide) ?_
    refine zn_icmp_eq C 20 dX5_requireSlot_6 (by decide) (by omega) (by omega) (fun h3 => ?_) (fun h4 => ?_)
    · exact z_vret C hr9 hk (()) (rfl) (trivial) (List.Perm.of_eq rfl) dX5_requireSlot_20 (Nat.le_refl _) (Nat.le_refl _)
    · exfalso; omega
theorem hdX5_requireSlot : yX5_requireSlot.cls = RX5 ∧ yX5_requireSlot.cls ≠ "java/lang/invoke/MethodHandle" ∧ yX5_requireSlot.cls ≠ "java/lang/invoke/VarHandle" ∧ (parseMethodDescriptor yX5_requireSlot.desc).map (fun d => d.parameters.length) = some 1 := by decide +kernel
set_option maxRecDepth 100000 in
set_option maxHeartbeats 4000000 in
theorem mX5_requireSlot_no (l : Launch) (D : va_G) (κ : Nat → ClassId) (adK adV : Nat → Nat) (ra c9 f9 h9 a9 b9 p9 o9 : Nat) (x : Int32) (hls : l.stackTraces = false) (hx : inI x (nI 0) (nI 1) = false) : zX (aX adK adV) l yX5_requireSlot wsX5_requireSlot { frames := 6, cells := 1, slots := 6, locals := 82 } D (zTy κ) [.ref (ra), .int (x)] (RC ra c9 f9 h9 a9 b9 p9 o9) eIB (S := Unit) (fun _ => True) (fun _ => RC ra c9 f9 h9 a9 b9 p9 o9) 1 6 := by
  refine zX_of (cc := cX5_requireSlot) (maxL := 2) (rt := none) [(0, .ref (ra)), (1, .int (x))] (by decide +kernel) rfl (Nat.le_of_ble_eq_true rfl) rfl ?_
  intro p e s m args below meth c A C hk htab hX
  have C : zC p s m args c cX5_requireSlot 2 wsX5_requireSlot RX5 D (zTy κ) A := C
  refine z_eq (ws' := RC ra c9 f9 h9 a9 b9 p9 o9 ++ []) ?_ rfl rfl rfl rfl
  refine z_iload_n C dX5_requireSlot_0 1 rfl ?_
  refine z_if_eq C 20 dX5_requireSlot_1 (by decide) (fun q => absurd hx (by rw [q]; decide)) (fun _ => ?_)
  refine z_iload_n C dX5_requireSlot_4 1 rfl ?_
  refine z_iconst (v := nI 1) C dX5_requireSlot_5 (by decide) ?_
  refine z_icmp_eq C 20 dX5_requireSlot_6 (by decide) (fun q => absurd hx (by rw [q]; decide)) (fun _ => ?_)
  exact zx_throwW C htab hk hls hX (E0 := eIB) (names := ["java/lang/RuntimeException", "java/lang/Exception"]) tf_IB tn_n (show Cond.classLink RX5 90 eIB ∈ wsX5_requireSlot from by decide +kernel) (show Cond.initialized eIB ∈ wsX5_requireSlot from by decide +kernel) (fun w h => List.mem_cons_of_mem _ (List.mem_append_right _ h)) tb_IB tc_IB tg_IB 22 (by decide) rfl rfl dX5_requireSlot_9 dX5_requireSlot_12 dX5_requireSlot_13 dX5_requireSlot_16 dX5_requireSlot_19 (Nat.le_of_ble_eq_true rfl) (Nat.le_of_ble_eq_true rfl) (Nat.le_of_ble_eq_true rfl) (Nat.le_of_ble_eq_true rfl) (Nat.le_of_ble_eq_true rfl) (Nat.le_of_ble_eq_true rfl) (()) (trivial) (List.Perm.of_eq rfl)
set_option maxRecDepth 100000 in
set_option maxHeartbeats 4000000 in
theorem mX5_slotFor_ok (l : Launch) (D : va_G) (κ : Nat → ClassId) (ra c9 f9 h9 a9 b9 p9 o9 : Nat) (k : Nat) (hk2 : k < 2) : zM l yX5_slotFor wsX5_slotFor { frames := 0, cells := 0, slots := 0, locals := 0 } D (zTy κ) [.ref ra, .int (nI k)] (RC ra c9 f9 h9 a9 b9 p9 o9) (S := Unit) (fun _ => (some (.ref (slA k a9 b9)))) (fun _ => True) (fun _ => RC ra c9 f9 h9 a9 b9 p9 o9) 0 0 := by
  refine zM_of (cc := cX5_slotFor) (maxL := 2) (rt := (some (.object "PeatRailway$Slot"))) [(0, .ref (ra)), (1, .int (nI k))] (by decide +kernel) rfl (Nat.le_of_ble_eq_true rfl) rfl ?_
  intro p e s m args below meth c A C hr9 hk hnm
  have C : zC p s m args c cX5_slotFor 2 wsX5_slotFor RX5 D (zTy κ) A := C
  have hin5 : ∀ w ∈ wsX50, w ∈ wsX5_slotFor := fun w h => List.mem_cons_of_mem _ (List.mem_append_right _ h)
  have k29 : Cond.fieldLink RX5 29 "PeatRailway" "firstSlot" "LPeatRailway$Slot;" ∈ wsX5_slotFor := by decide +kernel
  have k33 : Cond.fieldLink RX5 33 "PeatRailway" "secondSlot" "LPeatRailway$Slot;" ∈ wsX5_slotFor := by decide +kernel
  refine z_eq (ws' := RC ra c9 f9 h9 a9 b9 p9 o9 ++ []) ?_ rfl rfl rfl rfl
  refine z_iload_n C dX5_slotFor_0 1 rfl ?_
  refine zn_if_ne C 11 dX5_slotFor_1 (by decide) (by omega) (fun h1 => ?_) (fun h2 => ?_)
  · refine z_aload_n C dX5_slotFor_11 0 rfl ?_
    refine z_get C hin5 0 rfl rfl 4 (by decide) k33 rfl dX5_slotFor_12 ?_
    exact z_aret C hr9 hk () (congrArg (fun n => some (Value.ref n)) (if_neg (by omega))) trivial (List.Perm.of_eq rfl) dX5_slotFor_15 (Nat.le_refl _) (Nat.le_refl _)
  · refine z_aload_n C dX5_slotFor_4 0 rfl ?_
    refine z_get C hin5 0 rfl rfl 3 (by decide) k29 rfl dX5_slotFor_5 ?_
    refine z_goto (tgt := 15) C dX5_slotFor_8 (by decide) ?_
    exact z_aret C hr9 hk () (congrArg (fun n => some (Value.ref n)) (if_pos (by omega))) trivial (List.Perm.of_eq rfl) dX5_slotFor_15 (Nat.le_refl _) (Nat.le_refl _)
theorem hdX5_slotFor : yX5_slotFor.cls = RX5 ∧ yX5_slotFor.cls ≠ "java/lang/invoke/MethodHandle" ∧ yX5_slotFor.cls ≠ "java/lang/invoke/VarHandle" ∧ (parseMethodDescriptor yX5_slotFor.desc).map (fun d => d.parameters.length) = some 1 := by decide +kernel
set_option maxRecDepth 100000 in
set_option maxHeartbeats 4000000 in
theorem mX5_restore_ok (l : Launch) (D : va_G) (κ : Nat → ClassId) (Sa Ha : Nat → Nat) (Hs : Nat → Nat → Nat) (hf : Nat → Option Nat) (ra f9 a9 b9 p9 o9 : Nat) (g : Nat → Nat → Nat) (nx ct : Nat) (gh : Nat → Nat → Nat → Nat) (σ : Nat → Nat) (M : Nat) (Sl : Nat → Nat) (gl : Nat → Nat → Nat) (τ : Nat → Nat) (k : Nat) (hr : Rep g σ) (hv : Inv M σ) (hhf : ∀ j, j < 10 → hf j = some (Hs j 0)) (hnx : nx < 10) (hct : ct ≤ 10) (hrl : Rep gl τ) (hvl : Inv M τ) (hk2 : k < 2) : zM l yX5_restore wsX5_restore { frames := 3, cells := 0, slots := 0, locals := 70 } D (zTy κ) [.ref ra, .int (nI k)] (SW κ Sa g ++ (RC ra (Sa 0) f9 (Ha 0) a9 b9 p9 o9 ++ (LW κ (slA k a9 b9) Sl gl 1 ++ (HO κ Ha hf nx ct ++ hW κ Hs gh 10)))) (S := (Nat → Nat → Nat) × (Nat → Nat → Nat)) (fun _ => some (.int (nI (τ 0)))) (fun u => Rep u.1 σ ∧ Rep u.2 τ) (fun u => SW κ Sa u.2 ++ (RC ra (Sa 0) f9 (Ha 0) a9 b9 p9 o9 ++ (LW κ (slA k a9 b9) Sl gl 1 ++ (HO κ Ha hf (fwN nx) (mnN ct) ++ hW κ Hs (upS gh nx u.1) 10)))) 0 0 := by
  refine zM_of (cc := cX5_restore) (maxL := 3) (rt := (some .int)) [(0, .ref (ra)), (1, .int (nI k))] (by decide +kernel) rfl (Nat.le_of_ble_eq_true rfl) rfl ?_
  intro p e s m args below meth c A C hr9 hk hnm
  have C : zC p s m args c cX5_restore 3 wsX5_restore RX5 D (zTy κ) A := C
  have hin3 : ∀ w ∈ wsX30, w ∈ wsX5_restore := fun w h => List.mem_cons_of_mem _ (List.mem_append_left _ (List.mem_append_left _ (List.mem_append_left _ (List.mem_append_left _ (List.mem_append_left _ (List.mem_append_right _ h))))))
  have hin5 : ∀ w ∈ wsX50, w ∈ wsX5_restore := fun w h => List.mem_cons_of_mem _ (List.mem_append_left _ (List.mem_append_left _ (List.mem_append_left _ (List.mem_append_left _ (List.mem_append_right _ h)))))
  have hin4 : ∀ w ∈ wsX40, w ∈ wsX5_restore := fun w h => List.mem_cons_of_mem _ (List.mem_append_left _ (List.mem_append_left _ (List.mem_append_left _ (List.mem_append_right _ h))))
  have hin0 : ∀ w ∈ wsX00, w ∈ wsX5_restore := fun w h => List.mem_cons_of_mem _ (List.mem_append_left _ (List.mem_append_left _ (List.mem_append_right _ h)))
  have k103 : Cond.fieldLink RX5 103 "PeatRailway$Slot" "full" "Z" ∈ wsX5_restore := by decide +kernel
  have k22 : Cond.fieldLink RX5 22 "PeatRailway" "history" "LPeatRailway$History;" ∈ wsX5_restore := by decide +kernel
  have k10 : Cond.fieldLink RX5 10 "PeatRailway" "current" "LPeatRailway$State;" ∈ wsX5_restore := by decide +kernel
  have k241 : Cond.fieldLink RX5 241 "PeatRailway$Slot" "state" "LPeatRailway$State;" ∈ wsX5_restore := by decide +kernel
  have k116 : Cond.fieldLink RX5 116 "PeatRailway$State" "tick" "I" ∈ wsX5_restore := by decide +kernel
  refine z_eq (ws' := SW κ Sa g ++ (RC ra (Sa 0) f9 (Ha 0) a9 b9 p9 o9 ++ (LW κ (slA k a9 b9) Sl gl 1 ++ (HO κ Ha hf nx ct ++ hW κ Hs gh 10)))) ?_ rfl rfl rfl rfl
  have hn1 := hv.n1
  have hn2 := hv.n2
  refine z_aload_n C dX5_restore_0 0 rfl ?_
  refine z_iload_n C dX5_restore_1 1 rfl ?_
  refine z_callV C (mX5_requireSlot_ok l D κ ra (Sa 0) f9 (Ha 0) a9 b9 p9 o9 k hk2) gX5_restore_X5_requireSlot rfl rfl rfl hdX5_requireSlot ⟨Nat.le_of_ble_eq_true rfl, Nat.le_of_ble_eq_true rfl⟩ 0 rfl rfl (SW κ Sa g ++ (LW κ (slA k a9 b9) Sl gl 1 ++ (HO κ Ha hf nx ct ++ hW κ Hs gh 10))) (fun _ => SW κ Sa g ++ (RC ra (Sa 0) f9 (Ha 0) a9 b9 p9 o9 ++ (LW κ (slA k a9 b9) Sl gl 1 ++ (HO κ Ha hf nx ct ++ hW κ Hs gh 10)))) zp_mid (fun _ => zp_mid) rfl (Nat.le_of_ble_eq_true rfl) dX5_restore_2 ⟨Nat.zero_le _, Nat.zero_le _⟩ (fun _ _ => ?_)
  refine z_aload_n C dX5_restore_5 0 rfl ?_
  refine z_iload_n C dX5_restore_6 1 rfl ?_
  refine z_callV C (mX5_slotFor_ok l D κ ra (Sa 0) f9 (Ha 0) a9 b9 p9 o9 k hk2) gX5_restore_X5_slotFor rfl rfl rfl hdX5_slotFor ⟨Nat.le_of_ble_eq_true rfl, Nat.le_of_ble_eq_true rfl⟩ 0 rfl rfl (SW κ Sa g ++ (LW κ (slA k a9 b9) Sl gl 1 ++ (HO κ Ha hf nx ct ++ hW κ Hs gh 10))) (fun _ => SW κ Sa g ++ (RC ra (Sa 0) f9 (Ha 0) a9 b9 p9 o9 ++ (LW κ (slA k a9 b9) Sl gl 1 ++ (HO κ Ha hf nx ct ++ hW κ Hs gh 10)))) zp_mid (fun _ => zp_mid) rfl (Nat.le_of_ble_eq_true rfl) dX5_restore_7 ⟨Nat.zero_le _, Nat.zero_le _⟩ (fun _ _ => ?_)
  refine z_astore_n C [(2, .ref (slA k a9 b9)), (0, .ref (ra)), (1, .int (nI k))] dX5_restore_10 (by decide) rfl ?_
  refine z_aload_n C dX5_restore_11 0 rfl ?_
  refine z_get C hin3 27 rfl rfl 1 (by decide) k103 rfl dX5_restore_12 ?_
  refine z_if_ne C 28 dX5_restore_15 (by decide) (fun _ => ?_) (fun q => absurd q (by decide))
  refine z_aload_n C dX5_restore_28 1 rfl ?_
  refine z_get C hin5 13 rfl rfl 2 (by decide) k22 rfl dX5_restore_29 ?_
  refine z_aload_n C dX5_restore_32 1 rfl ?_
  refine z_get C hin5 13 rfl rfl 0 (by decide) k10 rfl dX5_restore_33 ?_
  refine z_callV C (mX0_record l D κ Ha Sa Hs gh hf nx ct g hhf hnx hct) gX5_restore_X0_record rfl rfl rfl hdX0_record ⟨Nat.le_of_ble_eq_true rfl, Nat.le_of_ble_eq_true rfl⟩ 0 rfl rfl (RC ra (Sa 0) f9 (Ha 0) a9 b9 p9 o9 ++ LW κ (slA k a9 b9) Sl gl 1) (fun q => SW κ Sa g ++ (RC ra (Sa 0) f9 (Ha 0) a9 b9 p9 o9 ++ (LW κ (slA k a9 b9) Sl gl 1 ++ (HO κ Ha hf (fwN nx) (mnN ct) ++ hW κ Hs (upS gh nx (upA g 8 q)) 10)))) pm_7 (fun _ => pm_7.symm) rfl (Nat.le_of_ble_eq_true rfl) dX5_restore_36 ⟨Nat.zero_le _, Nat.zero_le _⟩ (fun q hq => ?_)
  have hrq := Rep_cp hr hv hq
  refine z_aload_n C dX5_restore_39 1 rfl ?_
  refine z_get C hin5 13 rfl rfl 0 (by decide) k10 rfl dX5_restore_40 ?_
  refine z_aload_n C dX5_restore_43 0 rfl ?_
  refine z_get C hin3 27 rfl rfl 0 (by decide) k241 rfl dX5_restore_44 ?_
  refine z_callV C (mX4_copyFrom l D κ Sa Sl g gl) gX5_restore_X4_copyFrom rfl rfl rfl hdX4_copyFrom ⟨Nat.le_of_ble_eq_true rfl, Nat.le_of_ble_eq_true rfl⟩ 0 rfl rfl (RC ra (Sa 0) f9 (Ha 0) a9 b9 p9 o9 ++ (SO (slA k a9 b9) (Sl 0) 1 ++ (HO κ Ha hf (fwN nx) (mnN ct) ++ hW κ Hs (upS gh nx (upA g 8 q)) 10))) (fun q2 => SW κ Sa (upA gl 8 q2) ++ (RC ra (Sa 0) f9 (Ha 0) a9 b9 p9 o9 ++ (LW κ (slA k a9 b9) Sl gl 1 ++ (HO κ Ha hf (fwN nx) (mnN ct) ++ hW κ Hs (upS gh nx (upA g 8 q)) 10)))) pm_8 (fun _ => pm_8.symm) rfl (Nat.le_of_ble_eq_true rfl) dX5_restore_47 ⟨Nat.zero_le _, Nat.zero_le _⟩ (fun q2 hq2 => ?_)
  have hr2 := Rep_cp hrl hvl hq2
  refine z_aload_n C dX5_restore_50 1 rfl ?_
  refine z_get C hin5 13 rfl rfl 0 (by decide) k10 rfl dX5_restore_51 ?_
  refine zs_get_tick C hin4 (x := τ 0) k116 dX5_restore_54 hr2.1.s0 ?_
  exact z_iret C hr9 hk ((upA g 8 q, upA gl 8 q2)) (rfl) (⟨hrq, hr2⟩) (List.Perm.of_eq rfl) dX5_restore_57 (Nat.le_refl _) (Nat.le_refl _)
theorem hdX5_restore : yX5_restore.cls = RX5 ∧ yX5_restore.cls ≠ "java/lang/invoke/MethodHandle" ∧ yX5_restore.cls ≠ "java/lang/invoke/VarHandle" ∧ (parseMethodDescriptor yX5_restore.desc).map (fun d => d.parameters.length) = some 1 := by decide +kernel
set_option maxRecDepth 100000 in
set_option maxHeartbeats 4000000 in
theorem mX5_save_ok (l : Launch) (D : va_G) (κ : Nat → ClassId) (Sa : Nat → Nat) (g : Nat → Nat → Nat) (ra f9 h9 a9 b9 p9 o9 : Nat) (σ : Nat → Nat) (M : Nat) (Sl : Nat → Nat) (gl : Nat → Nat → Nat) (fl k : Nat) (hr : Rep g σ) (hv : Inv M σ) (hk2 : k < 2) : zM l yX5_save wsX5_save { frames := 2, cells := 0, slots := 0, locals := 48 } D (zTy κ) [.ref ra, .int (nI k)] (SW κ Sa g ++ (RC ra (Sa 0) f9 h9 a9 b9 p9 o9 ++ LW κ (slA k a9 b9) Sl gl fl)) (S := Nat → Nat → Nat) (fun _ => some (.int (nI (σ 0)))) (fun u => Rep u σ) (fun u => SW κ Sa g ++ (RC ra (Sa 0) f9 h9 a9 b9 p9 o9 ++ LW κ (slA k a9 b9) Sl u 1)) 0 0 := by
  refine zM_of (cc := cX5_save) (maxL := 3) (rt := (some .int)) [(0, .ref (ra)), (1, .int (nI k))] (by decide +kernel) rfl (Nat.le_of_ble_eq_true rfl) rfl ?_
  intro p e s m args below meth c A C hr9 hk hnm
  have C : zC p s m args c cX5_save 3 wsX5_save RX5 D (zTy κ) A := C
  have hin3 : ∀ w ∈ wsX30, w ∈ wsX5_save := fun w h => List.mem_cons_of_mem _ (List.mem_append_left _ (List.mem_append_left _ (List.mem_append_left _ (List.mem_append_right _ h))))
  have hin5 : ∀ w ∈ wsX50, w ∈ wsX5_save := fun w h => List.mem_cons_of_mem _ (List.mem_append_left _ (List.mem_append_left _ (List.mem_append_right _ h)))
  have hin4 : ∀ w ∈ wsX40, w ∈ wsX5_save := fun w h => List.mem_cons_of_mem _ (List.mem_append_left _ (List.mem_append_right _ h))
  have k241 : Cond.fieldLink RX5 241 "PeatRailway$Slot" "state" "LPeatRailway$State;" ∈ wsX5_save := by decide +kernel
  have k10 : Cond.fieldLink RX5 10 "PeatRailway" "current" "LPeatRailway$State;" ∈ wsX5_save := by decide +kernel
  have k103 : Cond.fieldLink RX5 103 "PeatRailway$Slot" "full" "Z" ∈ wsX5_save := by decide +kernel
  have k116 : Cond.fieldLink RX5 116 "PeatRailway$State" "tick" "I" ∈ wsX5_save := by decide +kernel
  refine z_eq (ws' := SW κ Sa g ++ (RC ra (Sa 0) f9 h9 a9 b9 p9 o9 ++ LW κ (slA k a9 b9) Sl gl fl)) ?_ rfl rfl rfl rfl
  have hn1 := hv.n1
  have hn2 := hv.n2
  refine z_aload_n C dX5_save_0 0 rfl ?_
  refine z_iload_n C dX5_save_1 1 rfl ?_
  refine z_callV C (mX5_requireSlot_ok l D κ ra (Sa 0) f9 h9 a9 b9 p9 o9 k hk2) gX5_save_X5_requireSlot rfl rfl rfl hdX5_requireSlot ⟨Nat.le_of_ble_eq_true rfl, Nat.le_of_ble_eq_true rfl⟩ 0 rfl rfl (SW κ Sa g ++ LW κ (slA k a9 b9) Sl gl fl) (fun _ => SW κ Sa g ++ (RC ra (Sa 0) f9 h9 a9 b9 p9 o9 ++ LW κ (slA k a9 b9) Sl gl fl)) zp_mid (fun _ => zp_mid) rfl (Nat.le_of_ble_eq_true rfl) dX5_save_2 ⟨Nat.zero_le _, Nat.zero_le _⟩ (fun _ _ => ?_)
  refine z_aload_n C dX5_save_5 0 rfl ?_
  refine z_iload_n C dX5_save_6 1 rfl ?_
  refine z_callV C (mX5_slotFor_ok l D κ ra (Sa 0) f9 h9 a9 b9 p9 o9 k hk2) gX5_save_X5_slotFor rfl rfl rfl hdX5_slotFor ⟨Nat.le_of_ble_eq_true rfl, Nat.le_of_ble_eq_true rfl⟩ 0 rfl rfl (SW κ Sa g ++ LW κ (slA k a9 b9) Sl gl fl) (fun _ => SW κ Sa g ++ (RC ra (Sa 0) f9 h9 a9 b9 p9 o9 ++ LW κ (slA k a9 b9) Sl gl fl)) zp_mid (fun _ => zp_mid) rfl (Nat.le_of_ble_eq_true rfl) dX5_save_7 ⟨Nat.zero_le _, Nat.zero_le _⟩ (fun _ _ => ?_)
  refine z_astore_n C [(2, .ref (slA k a9 b9)), (0, .ref (ra)), (1, .int (nI k))] dX5_save_10 (by decide) rfl ?_
  refine z_aload_n C dX5_save_11 0 rfl ?_
  refine z_get C hin3 27 rfl rfl 0 (by decide) k241 rfl dX5_save_12 ?_
  refine z_aload_n C dX5_save_15 1 rfl ?_
  refine z_get C hin5 13 rfl rfl 0 (by decide) k10 rfl dX5_save_16 ?_
  refine z_callV C (mX4_copyFrom l D κ Sl Sa gl g) gX5_save_X4_copyFrom rfl rfl rfl hdX4_copyFrom ⟨Nat.le_of_ble_eq_true rfl, Nat.le_of_ble_eq_true rfl⟩ 0 rfl rfl (RC ra (Sa 0) f9 h9 a9 b9 p9 o9 ++ SO (slA k a9 b9) (Sl 0) fl) (fun q2 => SW κ Sa g ++ (RC ra (Sa 0) f9 h9 a9 b9 p9 o9 ++ LW κ (slA k a9 b9) Sl (upA g 8 q2) fl)) pm_9 (fun _ => pm_9.symm) rfl (Nat.le_of_ble_eq_true rfl) dX5_save_19 ⟨Nat.zero_le _, Nat.zero_le _⟩ (fun q2 hq2 => ?_)
  have hr2 := Rep_cp hr hv hq2
  refine z_aload_n C dX5_save_22 0 rfl ?_
  refine z_iconst (v := nI 1) C dX5_save_23 (by decide) ?_
  refine z_put C hin3 tyX3 tyX3_ok nmX3 27 rfl rfl 1 (by decide) k103 rfl rfl rfl (Nat.le_of_ble_eq_true rfl) dX5_save_24 (SW κ Sa g ++ (RC ra (Sa 0) f9 h9 a9 b9 p9 o9 ++ LW κ (slA k a9 b9) Sl (upA g 8 q2) 1)) rfl ?_
  refine z_aload_n C dX5_save_27 1 rfl ?_
  refine z_get C hin5 13 rfl rfl 0 (by decide) k10 rfl dX5_save_28 ?_
  refine zs_get_tick C hin4 (x := σ 0) k116 dX5_save_31 hr.1.s0 ?_
  exact z_iret C hr9 hk (upA g 8 q2) (rfl) (hr2) (List.Perm.of_eq rfl) dX5_save_34 (Nat.le_refl _) (Nat.le_refl _)
theorem hdX5_save : yX5_save.cls = RX5 ∧ yX5_save.cls ≠ "java/lang/invoke/MethodHandle" ∧ yX5_save.cls ≠ "java/lang/invoke/VarHandle" ∧ (parseMethodDescriptor yX5_save.desc).map (fun d => d.parameters.length) = some 1 := by decide +kernel
set_option maxRecDepth 100000 in
set_option maxHeartbeats 4000000 in
theorem mX5_restore_no (l : Launch) (D : va_G) (κ : Nat → ClassId) (adK adV : Nat → Nat) (ra c9 f9 h9 a9 b9 p9 o9 : Nat) (x : Int32) (hls : l.stackTraces = false) (hx : inI x (nI 0) (nI 1) = false) : zX (aX adK adV) l yX5_restore wsX5_restore { frames := 7, cells := 1, slots := 6, locals := 103 } D (zTy κ) [.ref (ra), .int (x)] (RC ra c9 f9 h9 a9 b9 p9 o9) eIB (S := Unit) (fun _ => True) (fun _ => RC ra c9 f9 h9 a9 b9 p9 o9) 1 6 := by
  refine zX_of (cc := cX5_restore) (maxL := 3) (rt := (some .int)) [(0, .ref (ra)), (1, .int (x))] (by decide +kernel) rfl (Nat.le_of_ble_eq_true rfl) rfl ?_
  intro p e s m args below meth c A C hk htab hX
  have C : zC p s m args c cX5_restore 3 wsX5_restore RX5 D (zTy κ) A := C
  have hin3 : ∀ w ∈ wsX30, w ∈ wsX5_restore := fun w h => List.mem_cons_of_mem _ (List.mem_append_left _ (List.mem_append_left _ (List.mem_append_left _ (List.mem_append_left _ (List.mem_append_left _ (List.mem_append_right _ h))))))
  have hin5 : ∀ w ∈ wsX50, w ∈ wsX5_restore := fun w h => List.mem_cons_of_mem _ (List.mem_append_left _ (List.mem_append_left _ (List.mem_append_left _ (List.mem_append_left _ (List.mem_append_right _ h)))))
  have hin4 : ∀ w ∈ wsX40, w ∈ wsX5_restore := fun w h => List.mem_cons_of_mem _ (List.mem_append_left _ (List.mem_append_left _ (List.mem_append_left _ (List.mem_append_right _ h))))
  have hin0 : ∀ w ∈ wsX00, w ∈ wsX5_restore := fun w h => List.mem_cons_of_mem _ (List.mem_append_left _ (List.mem_append_left _ (List.mem_append_right _ h)))
  have k103 : Cond.fieldLink RX5 103 "PeatRailway$Slot" "full" "Z" ∈ wsX5_restore := by decide +kernel
  have k22 : Cond.fieldLink RX5 22 "PeatRailway" "history" "LPeatRailway$History;" ∈ wsX5_restore := by decide +kernel
  have k10 : Cond.fieldLink RX5 10 "PeatRailway" "current" "LPeatRailway$State;" ∈ wsX5_restore := by decide +kernel
  have k241 : Cond.fieldLink RX5 241 "PeatRailway$Slot" "state" "LPeatRailway$State;" ∈ wsX5_restore := by decide +kernel
  have k116 : Cond.fieldLink RX5 116 "PeatRailway$State" "tick" "I" ∈ wsX5_restore := by decide +kernel
  refine z_eq (ws' := RC ra c9 f9 h9 a9 b9 p9 o9 ++ []) ?_ rfl rfl rfl rfl
  refine z_aload_n C dX5_restore_0 0 rfl ?_
  refine z_iload_n C dX5_restore_1 1 rfl ?_
  exact zx_callV C htab hk (aX_ok adK adV) hX (mX5_requireSlot_no l D κ adK adV ra c9 f9 h9 a9 b9 p9 o9 x hls hx) gX5_restore_X5_requireSlot rfl rfl rfl hdX5_requireSlot ⟨(Nat.le_of_ble_eq_true rfl), (Nat.le_of_ble_eq_true rfl)⟩ 0 rfl rfl [] (List.Perm.refl _) rfl (Nat.le_of_ble_eq_true rfl) dX5_restore_2 ⟨(Nat.le_of_ble_eq_true rfl), (Nat.le_of_ble_eq_true rfl)⟩ (Nat.le_of_ble_eq_true rfl) (Nat.le_of_ble_eq_true rfl) (fun u _ => ⟨(), trivial, List.Perm.of_eq rfl⟩)
set_option maxRecDepth 100000 in
set_option maxHeartbeats 4000000 in
theorem mX5_save_no (l : Launch) (D : va_G) (κ : Nat → ClassId) (adK adV : Nat → Nat) (ra c9 f9 h9 a9 b9 p9 o9 : Nat) (x : Int32) (hls : l.stackTraces = false) (hx : inI x (nI 0) (nI 1) = false) : zX (aX adK adV) l yX5_save wsX5_save { frames := 7, cells := 1, slots := 6, locals := 103 } D (zTy κ) [.ref (ra), .int (x)] (RC ra c9 f9 h9 a9 b9 p9 o9) eIB (S := Unit) (fun _ => True) (fun _ => RC ra c9 f9 h9 a9 b9 p9 o9) 1 6 := by
  refine zX_of (cc := cX5_save) (maxL := 3) (rt := (some .int)) [(0, .ref (ra)), (1, .int (x))] (by decide +kernel) rfl (Nat.le_of_ble_eq_true rfl) rfl ?_
  intro p e s m args below meth c A C hk htab hX
  have C : zC p s m args c cX5_save 3 wsX5_save RX5 D (zTy κ) A := C
  have hin3 : ∀ w ∈ wsX30, w ∈ wsX5_save := fun w h => List.mem_cons_of_mem _ (List.mem_append_left _ (List.mem_append_left _ (List.mem_append_left _ (List.mem_append_right _ h))))
  have hin5 : ∀ w ∈ wsX50, w ∈ wsX5_save := fun w h => List.mem_cons_of_mem _ (List.mem_append_left _ (List.mem_append_left _ (List.mem_append_right _ h)))
  have hin4 : ∀ w ∈ wsX40, w ∈ wsX5_save := fun w h => List.mem_cons_of_mem _ (List.mem_append_left _ (List.mem_append_right _ h))
  have k241 : Cond.fieldLink RX5 241 "PeatRailway$Slot" "state" "LPeatRailway$State;" ∈ wsX5_save := by decide +kernel
  have k10 : Cond.fieldLink RX5 10 "PeatRailway" "current" "LPeatRailway$State;" ∈ wsX5_save := by decide +kernel
  have k103 : Cond.fieldLink RX5 103 "PeatRailway$Slot" "full" "Z" ∈ wsX5_save := by decide +kernel
  have k116 : Cond.fieldLink RX5 116 "PeatRailway$State" "tick" "I" ∈ wsX5_save := by decide +kernel
  refine z_eq (ws' := RC ra c9 f9 h9 a9 b9 p9 o9 ++ []) ?_ rfl rfl rfl rfl
  refine z_aload_n C dX5_save_0 0 rfl ?_
  refine z_iload_n C dX5_save_1 1 rfl ?_
  exact zx_callV C htab hk (aX_ok adK adV) hX (mX5_requireSlot_no l D κ adK adV ra c9 f9 h9 a9 b9 p9 o9 x hls hx) gX5_save_X5_requireSlot rfl rfl rfl hdX5_requireSlot ⟨(Nat.le_of_ble_eq_true rfl), (Nat.le_of_ble_eq_true rfl)⟩ 0 rfl rfl [] (List.Perm.refl _) rfl (Nat.le_of_ble_eq_true rfl) dX5_save_2 ⟨(Nat.le_of_ble_eq_true rfl), (Nat.le_of_ble_eq_true rfl)⟩ (Nat.le_of_ble_eq_true rfl) (Nat.le_of_ble_eq_true rfl) (fun u _ => ⟨(), trivial, List.Perm.of_eq rfl⟩)
set_option maxRecDepth 100000 in
set_option maxHeartbeats 4000000 in
theorem mX5_restore_emp (l : Launch) (D : va_G) (κ : Nat → ClassId) (adK adV : Nat → Nat) (ra c9 f9 h9 a9 b9 p9 o9 : Nat) (x9 k : Nat) (hls : l.stackTraces = false) (hk2 : k < 2) : zX (aX adK adV) l yX5_restore wsX5_restore { frames := 6, cells := 1, slots := 6, locals := 103 } D (zTy κ) [.ref (ra), .int (nI k)] (RC ra c9 f9 h9 a9 b9 p9 o9 ++ (SO (slA k a9 b9) x9 0)) eIS (S := Unit) (fun _ => True) (fun _ => RC ra c9 f9 h9 a9 b9 p9 o9 ++ (SO (slA k a9 b9) x9 0)) 1 6 := by
  refine zX_of (cc := cX5_restore) (maxL := 3) (rt := (some .int)) [(0, .ref (ra)), (1, .int (nI k))] (by decide +kernel) rfl (Nat.le_of_ble_eq_true rfl) rfl ?_
  intro p e s m args below meth c A C hk htab hX
  have C : zC p s m args c cX5_restore 3 wsX5_restore RX5 D (zTy κ) A := C
  have hin3 : ∀ w ∈ wsX30, w ∈ wsX5_restore := fun w h => List.mem_cons_of_mem _ (List.mem_append_left _ (List.mem_append_left _ (List.mem_append_left _ (List.mem_append_left _ (List.mem_append_left _ (List.mem_append_right _ h))))))
  have hin5 : ∀ w ∈ wsX50, w ∈ wsX5_restore := fun w h => List.mem_cons_of_mem _ (List.mem_append_left _ (List.mem_append_left _ (List.mem_append_left _ (List.mem_append_left _ (List.mem_append_right _ h)))))
  have hin4 : ∀ w ∈ wsX40, w ∈ wsX5_restore := fun w h => List.mem_cons_of_mem _ (List.mem_append_left _ (List.mem_append_left _ (List.mem_append_left _ (List.mem_append_right _ h))))
  have hin0 : ∀ w ∈ wsX00, w ∈ wsX5_restore := fun w h => List.mem_cons_of_mem _ (List.mem_append_left _ (List.mem_append_left _ (List.mem_append_right _ h)))
  have k103 : Cond.fieldLink RX5 103 "PeatRailway$Slot" "full" "Z" ∈ wsX5_restore := by decide +kernel
  have k22 : Cond.fieldLink RX5 22 "PeatRailway" "history" "LPeatRailway$History;" ∈ wsX5_restore := by decide +kernel
  have k10 : Cond.fieldLink RX5 10 "PeatRailway" "current" "LPeatRailway$State;" ∈ wsX5_restore := by decide +kernel
  have k241 : Cond.fieldLink RX5 241 "PeatRailway$Slot" "state" "LPeatRailway$State;" ∈ wsX5_restore := by decide +kernel
  have k116 : Cond.fieldLink RX5 116 "PeatRailway$State" "tick" "I" ∈ wsX5_restore := by decide +kernel
  refine z_eq (ws' := RC ra c9 f9 h9 a9 b9 p9 o9 ++ (SO (slA k a9 b9) x9 0 ++ [])) ?_ rfl rfl rfl rfl
  refine z_aload_n C dX5_restore_0 0 rfl ?_
  refine z_iload_n C dX5_restore_1 1 rfl ?_
  refine z_callV C (mX5_requireSlot_ok l D κ ra c9 f9 h9 a9 b9 p9 o9 k hk2) gX5_restore_X5_requireSlot rfl rfl rfl hdX5_requireSlot ⟨Nat.le_of_ble_eq_true rfl, Nat.le_of_ble_eq_true rfl⟩ 0 rfl rfl (SO (slA k a9 b9) x9 0) (fun _ => RC ra c9 f9 h9 a9 b9 p9 o9 ++ (SO (slA k a9 b9) x9 0 ++ [])) (List.Perm.of_eq rfl) (fun _ => List.Perm.of_eq rfl) rfl (Nat.le_of_ble_eq_true rfl) dX5_restore_2 ⟨Nat.zero_le _, Nat.zero_le _⟩ (fun _ _ => ?_)
  refine z_aload_n C dX5_restore_5 0 rfl ?_
  refine z_iload_n C dX5_restore_6 1 rfl ?_
  refine z_callV C (mX5_slotFor_ok l D κ ra c9 f9 h9 a9 b9 p9 o9 k hk2) gX5_restore_X5_slotFor rfl rfl rfl hdX5_slotFor ⟨Nat.le_of_ble_eq_true rfl, Nat.le_of_ble_eq_true rfl⟩ 0 rfl rfl (SO (slA k a9 b9) x9 0) (fun _ => RC ra c9 f9 h9 a9 b9 p9 o9 ++ (SO (slA k a9 b9) x9 0 ++ [])) (List.Perm.of_eq rfl) (fun _ => List.Perm.of_eq rfl) rfl (Nat.le_of_ble_eq_true rfl) dX5_restore_7 ⟨Nat.zero_le _, Nat.zero_le _⟩ (fun _ _ => ?_)
  refine z_astore_n C [(2, .ref (slA k a9 b9)), (0, .ref (ra)), (1, .int (nI k))] dX5_restore_10 (by decide) rfl ?_
  refine z_aload_n C dX5_restore_11 0 rfl ?_
  refine z_get C hin3 1 rfl rfl 1 (by decide) k103 rfl dX5_restore_12 ?_
  refine z_if_ne C 28 dX5_restore_15 (by decide) (fun q => absurd (by decide) q) (fun _ => ?_)
  exact zx_throw C htab hk hls hX (E0 := eIS) (names := ["java/lang/RuntimeException", "java/lang/Exception"]) tf_IS tn_n (show Cond.classLink RX5 76 eIS ∈ wsX5_restore from by decide +kernel) (show Cond.initialized eIS ∈ wsX5_restore from by decide +kernel) (fun w h => List.mem_cons_of_mem _ (List.mem_append_left _ (List.mem_append_right _ h))) tb_IS tc_IS tg_IS 23 (by decide) rfl rfl dX5_restore_18 dX5_restore_21 dX5_restore_22 dX5_restore_24 dX5_restore_27 (Nat.le_of_ble_eq_true rfl) (Nat.le_of_ble_eq_true rfl) (Nat.le_of_ble_eq_true rfl) (Nat.le_of_ble_eq_true rfl) (Nat.le_of_ble_eq_true rfl) (Nat.le_of_ble_eq_true rfl) (()) (trivial) (List.Perm.of_eq rfl)
set_option maxRecDepth 100000 in
set_option maxHeartbeats 4000000 in
theorem mX5_undo_ok (l : Launch) (D : va_G) (κ : Nat → ClassId) (Sa Ha : Nat → Nat) (Hs : Nat → Nat → Nat) (hf : Nat → Option Nat) (ra f9 a9 b9 p9 o9 : Nat) (g : Nat → Nat → Nat) (nx ct : Nat) (gh : Nat → Nat → Nat → Nat) (M : Nat) (τ : Nat → Nat) (hhf : ∀ j, j < 10 → hf j = some (Hs j 0)) (hnx : nx < 10) (hct : ct ≤ 10) (hc1 : 1 ≤ ct) (hrh : Rep (gh (bkN nx)) τ) (hvh : Inv M τ) : zM l yX5_undo wsX5_undo { frames := 3, cells := 0, slots := 0, locals := 71 } D (zTy κ) [.ref ra] (kW κ Sa Ha Hs hf ra f9 a9 b9 p9 o9 g nx ct gh) (S := Nat → Nat → Nat) (fun _ => some (.int (nI (ct - 1)))) (fun u => Rep u τ) (fun u => kW κ Sa Ha Hs hf ra f9 a9 b9 p9 o9 u (bkN nx) (ct - 1) gh) 0 0 := by
  refine zM_of (cc := cX5_undo) (maxL := 1) (rt := (some .int)) [(0, .ref (ra))] (by decide +kernel) rfl (Nat.le_of_ble_eq_true rfl) rfl ?_
  intro p e s m args below meth c A C hr9 hk hnm
  have C : zC p s m args c cX5_undo 1 wsX5_undo RX5 D (zTy κ) A := C
  have hin5 : ∀ w ∈ wsX50, w ∈ wsX5_undo := fun w h => List.mem_cons_of_mem _ (List.mem_append_left _ (List.mem_append_left _ (List.mem_append_left _ (List.mem_append_right _ h))))
  have hin0 : ∀ w ∈ wsX00, w ∈ wsX5_undo := fun w h => List.mem_cons_of_mem _ (List.mem_append_left _ (List.mem_append_left _ (List.mem_append_right _ h)))
  have hin4 : ∀ w ∈ wsX40, w ∈ wsX5_undo := fun w h => List.mem_cons_of_mem _ (List.mem_append_left _ (List.mem_append_right _ h))
  have k22 : Cond.fieldLink RX5 22 "PeatRailway" "history" "LPeatRailway$History;" ∈ wsX5_undo := by decide +kernel
  have k244 : Cond.fieldLink RX5 244 "PeatRailway$History" "count" "I" ∈ wsX5_undo := by decide +kernel
  have k10 : Cond.fieldLink RX5 10 "PeatRailway" "current" "LPeatRailway$State;" ∈ wsX5_undo := by decide +kernel
  refine z_eq (ws' := SW κ Sa g ++ (RC ra (Sa 0) f9 (Ha 0) a9 b9 p9 o9 ++ (HO κ Ha hf nx ct ++ hW κ Hs gh 10))) ?_ rfl rfl rfl rfl
  refine z_aload_n C dX5_undo_0 0 rfl ?_
  refine z_get C hin5 13 rfl rfl 2 (by decide) k22 rfl dX5_undo_1 ?_
  refine z_get C hin0 14 rfl rfl 2 (by decide) k244 rfl dX5_undo_4 ?_
  refine zn_if_ne C 20 dX5_undo_7 (by decide) (by omega) (fun h1 => ?_) (fun h2 => ?_)
  · refine z_aload_n C dX5_undo_20 0 rfl ?_
    refine z_get C hin5 13 rfl rfl 2 (by decide) k22 rfl dX5_undo_21 ?_
    refine z_aload_n C dX5_undo_24 0 rfl ?_
    refine z_get C hin5 13 rfl rfl 0 (by decide) k10 rfl dX5_undo_25 ?_
    refine z_callV C (mX0_takeBack l D κ Ha Sa Hs gh hf nx ct g hhf hnx hct hc1) gX5_undo_X0_takeBack rfl rfl rfl hdX0_takeBack ⟨Nat.le_of_ble_eq_true rfl, Nat.le_of_ble_eq_true rfl⟩ 0 rfl rfl (RC ra (Sa 0) f9 (Ha 0) a9 b9 p9 o9) (fun q => SW κ Sa (upA (gh (bkN nx)) 8 q) ++ (RC ra (Sa 0) f9 (Ha 0) a9 b9 p9 o9 ++ (HO κ Ha hf (bkN nx) (ct - 1) ++ hW κ Hs gh 10))) pm_6 (fun _ => pm_6.symm) rfl (Nat.le_of_ble_eq_true rfl) dX5_undo_28 ⟨Nat.zero_le _, Nat.zero_le _⟩ (fun q hq => ?_)
    have hr2 := Rep_cp hrh hvh hq
    refine z_aload_n C dX5_undo_31 0 rfl ?_
    refine z_get C hin5 13 rfl rfl 2 (by decide) k22 rfl dX5_undo_32 ?_
    refine z_get C hin0 14 rfl rfl 2 (by decide) k244 rfl dX5_undo_35 ?_
    exact z_iret C hr9 hk (upA (gh (bkN nx)) 8 q) (rfl) (hr2) (List.Perm.of_eq rfl) dX5_undo_38 (Nat.le_refl _) (Nat.le_refl _)
  · exfalso; omega
theorem hdX5_undo : yX5_undo.cls = RX5 ∧ yX5_undo.cls ≠ "java/lang/invoke/MethodHandle" ∧ yX5_undo.cls ≠ "java/lang/invoke/VarHandle" ∧ (parseMethodDescriptor yX5_undo.desc).map (fun d => d.parameters.length) = some 0 := by decide +kernel
set_option maxRecDepth 100000 in
set_option maxHeartbeats 4000000 in
theorem mX5_undo_no (l : Launch) (D : va_G) (κ : Nat → ClassId) (adK adV : Nat → Nat) (ra c9 f9 a9 b9 p9 o9 nx : Nat) (Ha : Nat → Nat) (hf : Nat → Option Nat) (hls : l.stackTraces = false)  : zX (aX adK adV) l yX5_undo wsX5_undo { frames := 6, cells := 1, slots := 6, locals := 103 } D (zTy κ) [.ref (ra)] (RC ra c9 f9 (Ha 0) a9 b9 p9 o9 ++ (HO κ Ha hf nx 0)) eIS (S := Unit) (fun _ => True) (fun _ => RC ra c9 f9 (Ha 0) a9 b9 p9 o9 ++ (HO κ Ha hf nx 0)) 1 6 := by
  refine zX_of (cc := cX5_undo) (maxL := 1) (rt := (some .int)) [(0, .ref (ra))] (by decide +kernel) rfl (Nat.le_of_ble_eq_true rfl) rfl ?_
  intro p e s m args below meth c A C hk htab hX
  have C : zC p s m args c cX5_undo 1 wsX5_undo RX5 D (zTy κ) A := C
  have hin5 : ∀ w ∈ wsX50, w ∈ wsX5_undo := fun w h => List.mem_cons_of_mem _ (List.mem_append_left _ (List.mem_append_left _ (List.mem_append_left _ (List.mem_append_right _ h))))
  have hin0 : ∀ w ∈ wsX00, w ∈ wsX5_undo := fun w h => List.mem_cons_of_mem _ (List.mem_append_left _ (List.mem_append_left _ (List.mem_append_right _ h)))
  have hin4 : ∀ w ∈ wsX40, w ∈ wsX5_undo := fun w h => List.mem_cons_of_mem _ (List.mem_append_left _ (List.mem_append_right _ h))
  have k22 : Cond.fieldLink RX5 22 "PeatRailway" "history" "LPeatRailway$History;" ∈ wsX5_undo := by decide +kernel
  have k244 : Cond.fieldLink RX5 244 "PeatRailway$History" "count" "I" ∈ wsX5_undo := by decide +kernel
  have k10 : Cond.fieldLink RX5 10 "PeatRailway" "current" "LPeatRailway$State;" ∈ wsX5_undo := by decide +kernel
  refine z_eq (ws' := RC ra c9 f9 (Ha 0) a9 b9 p9 o9 ++ (HO κ Ha hf nx 0 ++ [])) ?_ rfl rfl rfl rfl
  refine z_aload_n C dX5_undo_0 0 rfl ?_
  refine z_get C hin5 0 rfl rfl 2 (by decide) k22 rfl dX5_undo_1 ?_
  refine z_get C hin0 1 rfl rfl 2 (by decide) k244 rfl dX5_undo_4 ?_
  refine z_if_ne C 20 dX5_undo_7 (by decide) (fun q => absurd (by decide) q) (fun _ => ?_)
  exact zx_throw C htab hk hls hX (E0 := eIS) (names := ["java/lang/RuntimeException", "java/lang/Exception"]) tf_IS tn_n (show Cond.classLink RX5 76 eIS ∈ wsX5_undo from by decide +kernel) (show Cond.initialized eIS ∈ wsX5_undo from by decide +kernel) (fun w h => List.mem_cons_of_mem _ (List.mem_append_right _ h)) tb_IS tc_IS tg_IS 24 (by decide) rfl rfl dX5_undo_10 dX5_undo_13 dX5_undo_14 dX5_undo_16 dX5_undo_19 (Nat.le_of_ble_eq_true rfl) (Nat.le_of_ble_eq_true rfl) (Nat.le_of_ble_eq_true rfl) (Nat.le_of_ble_eq_true rfl) (Nat.le_of_ble_eq_true rfl) (Nat.le_of_ble_eq_true rfl) (()) (trivial) (List.Perm.of_eq rfl)
end X7
