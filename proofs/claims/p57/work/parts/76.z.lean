section JS2
theorem pm_3a {α : Type} {a b c : List α} : (a ++ (b ++ c)).Perm (c ++ (a ++ b)) := by
  classical
  exact List.perm_iff_count.mpr (fun x => by simp only [List.count_append]; omega)
theorem pm_3b {α : Type} {a b c : List α} : (c ++ (a ++ b)).Perm (a ++ (b ++ c)) := by
  classical
  exact List.perm_iff_count.mpr (fun x => by simp only [List.count_append]; omega)
/-- a row of bytes may be cloned -/
def kX : Ctx := fun _ U _ => va_Nw (.castable "[B" "java/lang/Cloneable") U
theorem kX_ok : CtxOk kX := ⟨fun _ _ _ _ hw h => va_Nw.warmC hw h, fun _ _ _ _ _ h => h, fun _ _ _ _ _ h => h, fun _ _ _ _ hv h => va_Nw.same rfl hv.symm h⟩
def tX (adK adV : Nat → Nat) : Ctx := fun A U H => cX adK adV A U H ∧ kX A U H
theorem tX_ok (adK adV : Nat → Nat) : CtxOk (tX adK adV) := by
  have h1 := cX_ok adK adV
  have h2 := kX_ok
  exact ⟨fun A u U H hw h => ⟨h1.1 A u U H hw h.1, h2.1 A u U H hw h.2⟩, fun A U H H1 hk h => ⟨h1.2.1 A U H H1 hk h.1, h2.2.1 A U H H1 hk h.2⟩, fun A B U H hAB h => ⟨h1.2.2.1 A B U H hAB h.1, h2.2.2.1 A B U H hAB h.2⟩, fun A u U H hv h => ⟨h1.2.2.2 A u U H hv h.1, h2.2.2.2 A u U H hv h.2⟩⟩
def dgn (x : Nat) : Nat := if x < 10 then 1 else 2
def dgs (x j : Nat) : Nat := if x < 10 then 48 + x else if j = 0 then 48 + x / 10 else 48 + x % 10
theorem ss_lt : ∀ x, x < 10 → ¬ -(nI x) ≤ (-10 : Int32) := by decide
theorem ss_ge {x : Nat} (h : x < 100) (h1 : 10 ≤ x) : -(nI x) ≤ (-10 : Int32) := (show ∀ x, x < 100 → 10 ≤ x → -(nI x) ≤ (-10 : Int32) by decide) x h h1
theorem ss_100 : ∀ x, x < 100 → ¬ -(nI x) ≤ nI 10 * (-10 : Int32) := by decide
theorem gc_100 : ∀ x, x < 100 → (-100 : Int32) < -(nI x) := by decide
theorem gc_9 : ∀ x, x < 10 → (-9 : Int32) ≤ -(nI x) := by decide
theorem gc_10 {x : Nat} (h : x < 100) (h1 : 10 ≤ x) : ¬ (-9 : Int32) ≤ -(nI x) := (show ∀ x, x < 100 → 10 ≤ x → ¬ (-9 : Int32) ≤ -(nI x) by decide) x h h1
theorem dgO_8 (x : Nat) : dgO x < 128 := by
  simp only [dgO]
  omega
theorem dgT_8 {x : Nat} (h : x < 100) : dgT x < 128 := by
  simp only [dgT]
  omega
set_option maxRecDepth 100000 in
set_option maxHeartbeats 4000000 in
theorem mJ1_canEncode_fc78d (l : Launch) (D : va_G) (κ : Nat → ClassId) (adK adV : Nat → Nat) (c9 : Nat) (hc : c9 < 128) : zMc (cX adK adV) l yJ1_canEncode_fc78d wsJ1_canEncode_fc78d { frames := 0, cells := 0, slots := 0, locals := 0 } D (zTy κ) [.int (nI c9)] ([]) (S := Unit) (fun u => some (.int (nI 1))) (fun u => True) (fun u => []) 0 0 := by
  refine zMc_of (cc := cJ1_canEncode_fc78d) (maxL := 1) (rt := (some .boolean)) [(0, .int (nI c9))] (by decide +kernel) rfl (Nat.le_of_ble_eq_true rfl) rfl ?_
  intro p e s m args below meth c A C hr9 hk hnm hX
  have C : zC p s m args c cJ1_canEncode_fc78d 1 wsJ1_canEncode_fc78d RJ1 D (zTy κ) A := C
  refine z_iload_n C dJ1_canEncode_fc78d_0 0 rfl ?_
  refine z_sipush (v := nI 255) C dJ1_canEncode_fc78d_1 (by decide) ?_
  refine zn_icmp_gt C 11 dJ1_canEncode_fc78d_4 (by decide) (by omega) (by omega) (fun h1 => ?_) (fun h2 => ?_)
  · exfalso; omega
  · refine z_iconst (v := nI 1) C dJ1_canEncode_fc78d_7 (by decide) ?_
    refine z_goto (tgt := 12) C dJ1_canEncode_fc78d_8 (by decide) ?_
    exact z_zret C hr9 hk (by decide) (()) (rfl) (trivial) (List.Perm.refl _) dJ1_canEncode_fc78d_12 (Nat.le_refl _) (Nat.le_refl _)
set_option maxRecDepth 100000 in
set_option maxHeartbeats 4000000 in
theorem mJ5_append_3fe6f (l : Launch) (D : va_G) (κ : Nat → ClassId) (adK adV : Nat → Nat) (ba va cap n : Nat) (h : Nat → Nat) (c9 : Nat) (hcap : cap ≤ 700) (hnc : n ≤ cap) (hq : n + 1 ≤ 300) (h8 : ∀ j, h j < 128) (hc : c9 < 128) : zMc (cX adK adV) l yJ5_append_3fe6f wsJ5_append_3fe6f { frames := 4, cells := 1, slots := 700, locals := 96 } D (zTy κ) [.ref (ba), .int (nI c9)] (SBW κ ba va cap n h) (S := Nat × Nat × (Nat → Nat)) (fun u => some (.ref ba)) (fun u => SbP n 1 (fun _ => c9) h u) (fun u => SBW κ ba u.1 u.2.1 (n + 1) u.2.2) 1 700 := by
  refine zMc_of (cc := cJ5_append_3fe6f) (maxL := 2) (rt := (some (.object "java/lang/AbstractStringBuilder"))) [(0, .ref (ba)), (1, .int (nI c9))] (by decide +kernel) rfl (Nat.le_of_ble_eq_true rfl) rfl ?_
  intro p e s m args below meth c A C hr9 hk hnm hX
  have C : zC p s m args c cJ5_append_3fe6f 2 wsJ5_append_3fe6f RJ5 D (zTy κ) A := C
  have hinJ4 : ∀ w ∈ wsJ40, w ∈ wsJ5_append_3fe6f := by decide +kernel
  refine z_aload_n C dJ5_append_3fe6f_0 0 rfl ?_
  refine z_aload_n C dJ5_append_3fe6f_1 0 rfl ?_
  refine z_get C hinJ4 0 rfl rfl 3 (by decide) (show Cond.fieldLink RJ5 79 "java/lang/AbstractStringBuilder" "count" "I" ∈ wsJ5_append_3fe6f from by decide +kernel) rfl dJ5_append_3fe6f_2 ?_
  refine z_iconst (v := nI 1) C dJ5_append_3fe6f_5 (by decide) ?_
  refine zn_iadd C dJ5_append_3fe6f_6 ?_
  refine z_callUc C (cX_ok adK adV) hX (mJ5_ensureCapacityInternal_d00df l D κ adK adV ba va cap n h (n + 1) (by omega) (by omega) h8) gJ5_append_3fe6f_J5_ensureCapacityInternal_d00df_u100J4 rfl rfl rfl rfl (show "java/lang/AbstractStringBuilder" ≠ "java/lang/invoke/MethodHandle" ∧ "java/lang/AbstractStringBuilder" ≠ "java/lang/invoke/VarHandle" ∧ (parseMethodDescriptor "(I)V").map (fun d => d.parameters.length) = some 1 from by decide +kernel) ⟨Nat.le_of_ble_eq_true rfl, Nat.le_of_ble_eq_true rfl⟩ 0 rfl rfl ([]) (fun u => SBW κ ba u.1 u.2.1 n u.2.2) (zp_self) (fun _ => zp_self') rfl (Nat.le_of_ble_eq_true rfl) dJ5_append_3fe6f_7 ⟨Nat.le_of_ble_eq_true rfl, Nat.le_of_ble_eq_true rfl⟩ (fun u hu => ?_)
  obtain ⟨va1, cap1, h1⟩ := u
  obtain ⟨e1, e2, e3, e4⟩ := hu
  dsimp only at e1 e2 e3 e4 ⊢
  refine z_aload_n C dJ5_append_3fe6f_10 0 rfl ?_
  refine z_callUc C (cX_ok adK adV) hX (mJ5_isLatin1_aae02 l D κ adK adV ba va1 cap1 n h1) gJ5_append_3fe6f_J5_isLatin1_aae02_u83J4 rfl rfl rfl rfl (show "java/lang/AbstractStringBuilder" ≠ "java/lang/invoke/MethodHandle" ∧ "java/lang/AbstractStringBuilder" ≠ "java/lang/invoke/VarHandle" ∧ (parseMethodDescriptor "()Z").map (fun d => d.parameters.length) = some 0 from by decide +kernel) ⟨Nat.le_of_ble_eq_true rfl, Nat.le_of_ble_eq_true rfl⟩ 0 rfl rfl ([]) (fun _ => SBW κ ba va1 cap1 n h1) (zp_self) (fun _ => zp_self') rfl (Nat.le_of_ble_eq_true rfl) dJ5_append_3fe6f_11 ⟨Nat.le_of_ble_eq_true rfl, Nat.le_of_ble_eq_true rfl⟩ (fun _ _ => ?_)
  refine z_if_eq C 45 dJ5_append_3fe6f_14 (by decide) (fun q => absurd q (by decide)) (fun _ => ?_)
  refine z_iload_n C dJ5_append_3fe6f_17 1 rfl ?_
  refine z_callSc C (cX_ok adK adV) hX (mJ1_canEncode_fc78d l D κ adK adV c9 hc) gJ5_append_3fe6f_J1_canEncode_fc78d rfl rfl rfl (show yJ1_canEncode_fc78d.cls ≠ "java/lang/invoke/MethodHandle" ∧ yJ1_canEncode_fc78d.cls ≠ "java/lang/invoke/VarHandle" ∧ (parseMethodDescriptor yJ1_canEncode_fc78d.desc).map (fun d => d.parameters.length) = some 1 from by decide +kernel) ⟨Nat.le_of_ble_eq_true rfl, Nat.le_of_ble_eq_true rfl⟩ (SBW κ ba va1 cap1 n h1) (fun _ => SBW κ ba va1 cap1 n h1) (List.Perm.refl _) (fun _ => List.Perm.refl _) rfl (Nat.le_of_ble_eq_true rfl) dJ5_append_3fe6f_18 ⟨Nat.le_of_ble_eq_true rfl, Nat.le_of_ble_eq_true rfl⟩ (fun _ _ => ?_)
  refine z_if_eq C 45 dJ5_append_3fe6f_21 (by decide) (fun q => absurd q (by decide)) (fun _ => ?_)
  refine z_aload_n C dJ5_append_3fe6f_24 0 rfl ?_
  refine z_get C hinJ4 0 rfl rfl 0 (by decide) (show Cond.fieldLink RJ5 15 "java/lang/AbstractStringBuilder" "value" "[B" ∈ wsJ5_append_3fe6f from by decide +kernel) rfl dJ5_append_3fe6f_25 ?_
  refine z_aload_n C dJ5_append_3fe6f_28 0 rfl ?_
  refine z_dup C dJ5_append_3fe6f_29 rfl ?_
  refine z_get C hinJ4 0 rfl rfl 3 (by decide) (show Cond.fieldLink RJ5 79 "java/lang/AbstractStringBuilder" "count" "I" ∈ wsJ5_append_3fe6f from by decide +kernel) rfl dJ5_append_3fe6f_30 ?_
  refine z_dup_x1 C dJ5_append_3fe6f_33 rfl rfl ?_
  refine z_iconst (v := nI 1) C dJ5_append_3fe6f_34 (by decide) ?_
  refine zn_iadd C dJ5_append_3fe6f_35 ?_
  refine z_put C hinJ4 tyJ4 tyJ4_ok nmJ4 0 rfl rfl 3 (by decide) (show Cond.fieldLink RJ5 79 "java/lang/AbstractStringBuilder" "count" "I" ∈ wsJ5_append_3fe6f from by decide +kernel) rfl rfl rfl (Nat.le_of_ble_eq_true rfl) dJ5_append_3fe6f_36 (SBW κ ba va1 cap1 (n + 1) h1) rfl ?_
  refine z_iload_n C dJ5_append_3fe6f_39 1 rfl ?_
  refine z_i2b (v := nI (c9)) C dJ5_append_3fe6f_40 (ni_i2b (by omega)) ?_
  refine z_bast C 1 1 rfl rfl (by omega) (by omega) dJ5_append_3fe6f_41 (SBW κ ba va1 cap1 (n + 1) (upN h1 n c9)) (by rw [ni_nar (by omega), nF_up]; rfl) ?_
  refine z_goto (tgt := 75) C dJ5_append_3fe6f_42 (by decide) ?_
  refine z_aload_n C dJ5_append_3fe6f_75 0 rfl ?_
  exact z_aret C hr9 hk ((va1, cap1, upN h1 n c9)) (rfl) (⟨e1, e2, up8 e3 hc, fun j hj => by show upN h1 n c9 j = h j; rw [upN_n (by omega)]; exact e4 j (by omega), fun j hj => by show upN h1 n c9 (n + j) = c9; rw [show n + j = n by omega, upN_s]⟩) (List.Perm.refl _) dJ5_append_3fe6f_76 (Nat.le_refl _) (Nat.le_refl _)
set_option maxRecDepth 100000 in
set_option maxHeartbeats 4000000 in
theorem mJ4_append_cf468 (l : Launch) (D : va_G) (κ : Nat → ClassId) (adK adV : Nat → Nat) (ba va cap n : Nat) (h : Nat → Nat) (c9 : Nat) (hcap : cap ≤ 700) (hnc : n ≤ cap) (hq : n + 1 ≤ 300) (h8 : ∀ j, h j < 128) (hc : c9 < 128) : zMc (cX adK adV) l yJ4_append_cf468 wsJ4_append_cf468 { frames := 5, cells := 1, slots := 700, locals := 117 } D (zTy κ) [.ref (ba), .int (nI c9)] (SBW κ ba va cap n h) (S := Nat × Nat × (Nat → Nat)) (fun u => some (.ref ba)) (fun u => SbP n 1 (fun _ => c9) h u) (fun u => SBW κ ba u.1 u.2.1 (n + 1) u.2.2) 1 700 := by
  refine zMc_of (cc := cJ4_append_cf468) (maxL := 2) (rt := (some (.object "java/lang/StringBuilder"))) [(0, .ref (ba)), (1, .int (nI c9))] (by decide +kernel) rfl (Nat.le_of_ble_eq_true rfl) rfl ?_
  intro p e s m args below meth c A C hr9 hk hnm hX
  have C : zC p s m args c cJ4_append_cf468 2 wsJ4_append_cf468 RJ4 D (zTy κ) A := C
  have hinJ4 : ∀ w ∈ wsJ40, w ∈ wsJ4_append_cf468 := by decide +kernel
  refine z_aload_n C dJ4_append_cf468_0 0 rfl ?_
  refine z_iload_n C dJ4_append_cf468_1 1 rfl ?_
  refine z_callWc C (cX_ok adK adV) hX (mJ5_append_3fe6f l D κ adK adV ba va cap n h c9 hcap hnc hq h8 hc) gJ4_append_cf468_J5_append_3fe6f_s50 rfl rfl rfl (show yJ5_append_3fe6f.name ≠ "<init>" ∧ (parseMethodDescriptor yJ5_append_3fe6f.desc).map (fun d => d.parameters.length) = some 1 from by decide +kernel) ⟨Nat.le_of_ble_eq_true rfl, Nat.le_of_ble_eq_true rfl⟩ 0 rfl rfl ([]) (fun u => SBW κ ba u.1 u.2.1 (n + 1) u.2.2) (zp_self) (fun _ => zp_self') rfl (Nat.le_of_ble_eq_true rfl) dJ4_append_cf468_2 ⟨Nat.le_of_ble_eq_true rfl, Nat.le_of_ble_eq_true rfl⟩ (fun u hu => ?_)
  refine z_pop C dJ4_append_cf468_5 rfl ?_
  refine z_aload_n C dJ4_append_cf468_6 0 rfl ?_
  exact z_aret C hr9 hk (u) (rfl) (hu) (List.Perm.refl _) dJ4_append_cf468_7 (Nat.le_refl _) (Nat.le_refl _)
set_option maxRecDepth 100000 in
set_option maxHeartbeats 4000000 in
theorem mJ6_stringSize_0f7a4 (l : Launch) (D : va_G) (κ : Nat → ClassId) (adK adV : Nat → Nat) (x : Nat) (hx : x < 100) : zMc (cX adK adV) l yJ6_stringSize_0f7a4 wsJ6_stringSize_0f7a4 { frames := 0, cells := 0, slots := 0, locals := 0 } D (zTy κ) [.int (nI x)] ([]) (S := Unit) (fun u => some (.int (nI (dgn x)))) (fun u => True) (fun u => []) 0 0 := by
  refine zMc_of (cc := cJ6_stringSize_0f7a4) (maxL := 4) (rt := (some .int)) [(0, .int (nI x))] (by decide +kernel) rfl (Nat.le_of_ble_eq_true rfl) rfl ?_
  intro p e s m args below meth c A C hr9 hk hnm hX
  have C : zC p s m args c cJ6_stringSize_0f7a4 4 wsJ6_stringSize_0f7a4 RJ6 D (zTy κ) A := C
  refine z_iconst (v := nI 1) C dJ6_stringSize_0f7a4_0 (by decide) ?_
  refine z_istore_n C [(1, .int (nI 1)), (0, .int (nI x))] dJ6_stringSize_0f7a4_1 (by decide) rfl ?_
  refine z_iload_n C dJ6_stringSize_0f7a4_2 1 rfl ?_
  refine zn_if_lt C 11 dJ6_stringSize_0f7a4_3 (by decide) (by omega) ?_
  refine z_iconst (v := nI 0) C dJ6_stringSize_0f7a4_6 (by decide) ?_
  refine z_istore_n C [(1, .int (nI 0)), (0, .int (nI x))] dJ6_stringSize_0f7a4_7 (by decide) rfl ?_
  refine z_iload_n C dJ6_stringSize_0f7a4_8 1 rfl ?_
  refine z_ineg C dJ6_stringSize_0f7a4_9 ?_
  refine z_istore_n C [(0, .int (-(nI x))), (1, .int (nI 0))] dJ6_stringSize_0f7a4_10 (by decide) rfl ?_
  refine z_bipush (v := (-10)) C dJ6_stringSize_0f7a4_11 (by decide) ?_
  refine z_istore_n C [(2, .int ((-10 : Int32))), (0, .int (-(nI x))), (1, .int (nI 0))] dJ6_stringSize_0f7a4_13 (by decide) rfl ?_
  refine z_iconst (v := nI 1) C dJ6_stringSize_0f7a4_14 (by decide) ?_
  refine z_istore_n C [(3, .int (nI 1)), (2, .int ((-10 : Int32))), (0, .int (-(nI x))), (1, .int (nI 0))] dJ6_stringSize_0f7a4_15 (by decide) rfl ?_
  refine z_iload_n C dJ6_stringSize_0f7a4_16 0 rfl ?_
  refine z_bipush (v := nI 10) C dJ6_stringSize_0f7a4_17 (by decide) ?_
  refine zn_icmp_ge C 42 dJ6_stringSize_0f7a4_19 (by decide) (by decide) (by decide) (fun q => absurd q (by decide)) (fun _ => ?_)
  refine z_iload_n C dJ6_stringSize_0f7a4_22 2 rfl ?_
  refine z_iload_n C dJ6_stringSize_0f7a4_23 1 rfl ?_
  rcases Nat.lt_or_ge x 10 with h9 | h9
  · refine z_icmp_le C 31 dJ6_stringSize_0f7a4_24 (by decide) (fun z => absurd z (ss_lt x h9)) (fun _ => ?_)
    refine z_iload_n C dJ6_stringSize_0f7a4_27 0 rfl ?_
    refine z_iload_n C dJ6_stringSize_0f7a4_28 3 rfl ?_
    refine zn_iadd C dJ6_stringSize_0f7a4_29 ?_
    exact z_iret C hr9 hk (()) (congrArg (fun k => some (Value.int (nI k))) (show dgn x = _ from by simp only [dgn]; rw [if_pos h9])) (trivial) (List.Perm.refl _) dJ6_stringSize_0f7a4_30 (Nat.le_refl _) (Nat.le_refl _)
  · refine z_icmp_le C 31 dJ6_stringSize_0f7a4_24 (by decide) (fun _ => ?_) (fun z => absurd (ss_ge hx h9) z)
    refine z_bipush (v := nI 10) C dJ6_stringSize_0f7a4_31 (by decide) ?_
    refine z_iload_n C dJ6_stringSize_0f7a4_33 1 rfl ?_
    refine z_imul C dJ6_stringSize_0f7a4_34 ?_
    refine z_istore_n C [(2, .int (nI 10 * ((-10 : Int32)))), (3, .int (nI 1)), (0, .int (-(nI x))), (1, .int (nI 0))] dJ6_stringSize_0f7a4_35 (by decide) rfl ?_
    refine zn_iinc (n := 1) C [(3, .int (nI (1 + 1))), (2, .int (nI 10 * ((-10 : Int32)))), (0, .int (-(nI x))), (1, .int (nI 0))] dJ6_stringSize_0f7a4_36 1 rfl (by decide) rfl ?_
    refine z_goto (tgt := 16) C dJ6_stringSize_0f7a4_39 (by decide) ?_
    refine z_iload_n C dJ6_stringSize_0f7a4_16 0 rfl ?_
    refine z_bipush (v := nI 10) C dJ6_stringSize_0f7a4_17 (by decide) ?_
    refine zn_icmp_ge C 42 dJ6_stringSize_0f7a4_19 (by decide) (by omega) (by omega) (fun h1 => ?_) (fun h2 => ?_)
    · exfalso; omega
    · refine z_iload_n C dJ6_stringSize_0f7a4_22 2 rfl ?_
      refine z_iload_n C dJ6_stringSize_0f7a4_23 1 rfl ?_
      refine z_icmp_le C 31 dJ6_stringSize_0f7a4_24 (by decide) (fun z => absurd z (ss_100 x hx)) (fun _ => ?_)
      refine z_iload_n C dJ6_stringSize_0f7a4_27 0 rfl ?_
      refine z_iload_n C dJ6_stringSize_0f7a4_28 3 rfl ?_
      refine zn_iadd C dJ6_stringSize_0f7a4_29 ?_
      exact z_iret C hr9 hk (()) (congrArg (fun k => some (Value.int (nI k))) (show dgn x = _ from by simp only [dgn]; rw [if_neg (by omega)])) (trivial) (List.Perm.refl _) dJ6_stringSize_0f7a4_30 (Nat.le_refl _) (Nat.le_refl _)
set_option maxRecDepth 100000 in
set_option maxHeartbeats 4000000 in
theorem mJ6_getChars_ba4f3_1 (l : Launch) (D : va_G) (κ : Nat → ClassId) (dO dT : Nat) (a cap k x : Nat) (h : Nat → Nat) (hcap : cap ≤ 700) (hk0 : k + 1 ≤ cap) (hx : x < 100) (h1 : x < 10) : zMc (dX dO dT) l yJ6_getChars_ba4f3 wsJ6_getChars_ba4f3 { frames := 0, cells := 0, slots := 0, locals := 0 } D (zTy κ) [.int (nI x), .int (nI (k + 1)), .ref (a)] (BAW κ a cap h) (S := Unit) (fun u => some (.int (nI k))) (fun u => True) (fun u => BAW κ a cap (upN h k (dgO x))) 0 0 := by
  refine zMc_of (cc := cJ6_getChars_ba4f3) (maxL := 7) (rt := (some .int)) [(0, .int (nI x)), (1, .int (nI (k + 1))), (2, .ref (a))] (by decide +kernel) rfl (Nat.le_of_ble_eq_true rfl) rfl ?_
  intro p e s m args below meth c A C hr9 hk hnm hX
  have C : zC p s m args c cJ6_getChars_ba4f3 7 wsJ6_getChars_ba4f3 RJ6 D (zTy κ) A := C
  refine z_iload_n C dJ6_getChars_ba4f3_0 1 rfl ?_
  refine z_istore C [(5, .int (nI (k + 1))), (0, .int (nI x)), (1, .int (nI (k + 1))), (2, .ref (a))] dJ6_getChars_ba4f3_1 (by decide) rfl ?_
  refine z_iload_n C dJ6_getChars_ba4f3_3 1 rfl ?_
  refine zn_if_ge C 11 dJ6_getChars_ba4f3_4 (by decide) (by omega) ?_
  refine z_iconst (v := nI 0) C dJ6_getChars_ba4f3_11 (by decide) ?_
  refine z_istore C [(6, .int (nI 0)), (5, .int (nI (k + 1))), (0, .int (nI x)), (1, .int (nI (k + 1))), (2, .ref (a))] dJ6_getChars_ba4f3_12 (by decide) rfl ?_
  refine z_iload C dJ6_getChars_ba4f3_14 0 rfl ?_
  refine z_if_ne C 22 dJ6_getChars_ba4f3_16 (by decide) (fun q => absurd (by decide) q) (fun _ => ?_)
  refine z_iload_n C dJ6_getChars_ba4f3_19 2 rfl ?_
  refine z_ineg C dJ6_getChars_ba4f3_20 ?_
  refine z_istore_n C [(0, .int (-(nI x))), (6, .int (nI 0)), (5, .int (nI (k + 1))), (1, .int (nI (k + 1))), (2, .ref (a))] dJ6_getChars_ba4f3_21 (by decide) rfl ?_
  refine z_iload_n C dJ6_getChars_ba4f3_22 0 rfl ?_
  refine z_bipush (v := (-100)) C dJ6_getChars_ba4f3_23 (by decide) ?_
  refine z_icmp_gt C 72 dJ6_getChars_ba4f3_25 (by decide) (fun _ => ?_) (fun z => absurd (gc_100 x hx) z)
  refine z_aload_n C dJ6_getChars_ba4f3_72 4 rfl ?_
  refine z_dec (k0 := k) C [(5, .int (nI k)), (0, .int (-(nI x))), (6, .int (nI 0)), (1, .int (nI (k + 1))), (2, .ref (a))] dJ6_getChars_ba4f3_73 2 rfl (by decide) rfl ?_
  refine z_iload C dJ6_getChars_ba4f3_76 0 rfl ?_
  refine z_dgO C hX (by decide +kernel) dJ6_getChars_ba4f3_78 ?_
  refine z_iload_n C dJ6_getChars_ba4f3_81 1 rfl ?_
  refine z_ineg C dJ6_getChars_ba4f3_82 ?_
  rw [show -(-(nI x)) = nI x from Int32.neg_neg]
  refine z_dlO C hX (by omega) dJ6_getChars_ba4f3_83 ?_
  refine z_bast C 0 1 rfl rfl (by omega) (by omega) dJ6_getChars_ba4f3_84 (BAW κ a cap (upN h k (dgO x))) (by rw [ni_nar (dgO_8 x), nF_up]; rfl) ?_
  refine z_iload_n C dJ6_getChars_ba4f3_85 1 rfl ?_
  refine z_bipush (v := (-9)) C dJ6_getChars_ba4f3_86 (by decide) ?_
  refine z_icmp_ge C 104 dJ6_getChars_ba4f3_88 (by decide) (fun _ => ?_) (fun z => absurd (gc_9 x h1) z)
  refine z_iload C dJ6_getChars_ba4f3_104 2 rfl ?_
  refine z_if_eq C 118 dJ6_getChars_ba4f3_106 (by decide) (fun _ => ?_) (fun q => absurd (by decide) q)
  refine z_iload C dJ6_getChars_ba4f3_118 0 rfl ?_
  exact z_iret C hr9 hk (()) (rfl) (trivial) (List.Perm.refl _) dJ6_getChars_ba4f3_120 (Nat.le_refl _) (Nat.le_refl _)
set_option maxRecDepth 100000 in
set_option maxHeartbeats 4000000 in
theorem mJ6_getChars_ba4f3_2 (l : Launch) (D : va_G) (κ : Nat → ClassId) (dO dT : Nat) (a cap k x : Nat) (h : Nat → Nat) (hcap : cap ≤ 700) (hk0 : k + 2 ≤ cap) (hx : x < 100) (h1 : 10 ≤ x) : zMc (dX dO dT) l yJ6_getChars_ba4f3 wsJ6_getChars_ba4f3 { frames := 0, cells := 0, slots := 0, locals := 0 } D (zTy κ) [.int (nI x), .int (nI (k + 2)), .ref (a)] (BAW κ a cap h) (S := Unit) (fun u => some (.int (nI k))) (fun u => True) (fun u => BAW κ a cap (upN (upN h (k + 1) (dgO x)) k (dgT x))) 0 0 := by
  refine zMc_of (cc := cJ6_getChars_ba4f3) (maxL := 7) (rt := (some .int)) [(0, .int (nI x)), (1, .int (nI (k + 2))), (2, .ref (a))] (by decide +kernel) rfl (Nat.le_of_ble_eq_true rfl) rfl ?_
  intro p e s m args below meth c A C hr9 hk hnm hX
  have C : zC p s m args c cJ6_getChars_ba4f3 7 wsJ6_getChars_ba4f3 RJ6 D (zTy κ) A := C
  refine z_iload_n C dJ6_getChars_ba4f3_0 1 rfl ?_
  refine z_istore C [(5, .int (nI (k + 2))), (0, .int (nI x)), (1, .int (nI (k + 2))), (2, .ref (a))] dJ6_getChars_ba4f3_1 (by decide) rfl ?_
  refine z_iload_n C dJ6_getChars_ba4f3_3 1 rfl ?_
  refine zn_if_ge C 11 dJ6_getChars_ba4f3_4 (by decide) (by omega) ?_
  refine z_iconst (v := nI 0) C dJ6_getChars_ba4f3_11 (by decide) ?_
  refine z_istore C [(6, .int (nI 0)), (5, .int (nI (k + 2))), (0, .int (nI x)), (1, .int (nI (k + 2))), (2, .ref (a))] dJ6_getChars_ba4f3_12 (by decide) rfl ?_
  refine z_iload C dJ6_getChars_ba4f3_14 0 rfl ?_
  refine z_if_ne C 22 dJ6_getChars_ba4f3_16 (by decide) (fun q => absurd (by decide) q) (fun _ => ?_)
  refine z_iload_n C dJ6_getChars_ba4f3_19 2 rfl ?_
  refine z_ineg C dJ6_getChars_ba4f3_20 ?_
  refine z_istore_n C [(0, .int (-(nI x))), (6, .int (nI 0)), (5, .int (nI (k + 2))), (1, .int (nI (k + 2))), (2, .ref (a))] dJ6_getChars_ba4f3_21 (by decide) rfl ?_
  refine z_iload_n C dJ6_getChars_ba4f3_22 0 rfl ?_
  refine z_bipush (v := (-100)) C dJ6_getChars_ba4f3_23 (by decide) ?_
  refine z_icmp_gt C 72 dJ6_getChars_ba4f3_25 (by decide) (fun _ => ?_) (fun z => absurd (gc_100 x hx) z)
  refine z_aload_n C dJ6_getChars_ba4f3_72 4 rfl ?_
  refine z_dec (k0 := k + 1) C [(5, .int (nI (k + 1))), (0, .int (-(nI x))), (6, .int (nI 0)), (1, .int (nI (k + 2))), (2, .ref (a))] dJ6_getChars_ba4f3_73 2 rfl (by decide) rfl ?_
  refine z_iload C dJ6_getChars_ba4f3_76 0 rfl ?_
  refine z_dgO C hX (by decide +kernel) dJ6_getChars_ba4f3_78 ?_
  refine z_iload_n C dJ6_getChars_ba4f3_81 1 rfl ?_
  refine z_ineg C dJ6_getChars_ba4f3_82 ?_
  rw [show -(-(nI x)) = nI x from Int32.neg_neg]
  refine z_dlO C hX (by omega) dJ6_getChars_ba4f3_83 ?_
  refine z_bast C 0 1 rfl rfl (by omega) (by omega) dJ6_getChars_ba4f3_84 (BAW κ a cap (upN h (k + 1) (dgO x))) (by rw [ni_nar (dgO_8 x), nF_up]; rfl) ?_
  refine z_iload_n C dJ6_getChars_ba4f3_85 1 rfl ?_
  refine z_bipush (v := (-9)) C dJ6_getChars_ba4f3_86 (by decide) ?_
  refine z_icmp_ge C 104 dJ6_getChars_ba4f3_88 (by decide) (fun z => absurd z (gc_10 hx h1)) (fun _ => ?_)
  refine z_aload_n C dJ6_getChars_ba4f3_91 4 rfl ?_
  refine z_dec (k0 := k) C [(5, .int (nI k)), (0, .int (-(nI x))), (6, .int (nI 0)), (1, .int (nI (k + 2))), (2, .ref (a))] dJ6_getChars_ba4f3_92 0 rfl (by decide) rfl ?_
  refine z_iload C dJ6_getChars_ba4f3_95 0 rfl ?_
  refine z_dgT C hX (by decide +kernel) dJ6_getChars_ba4f3_97 ?_
  refine z_iload_n C dJ6_getChars_ba4f3_100 1 rfl ?_
  refine z_ineg C dJ6_getChars_ba4f3_101 ?_
  rw [show -(-(nI x)) = nI x from Int32.neg_neg]
  refine z_dlT C hX (by omega) dJ6_getChars_ba4f3_102 ?_
  refine z_bast C 0 1 rfl rfl (by omega) (by omega) dJ6_getChars_ba4f3_103 (BAW κ a cap (upN (upN h (k + 1) (dgO x)) k (dgT x))) (by rw [ni_nar (dgT_8 hx), nF_up]; rfl) ?_
  refine z_iload C dJ6_getChars_ba4f3_104 2 rfl ?_
  refine z_if_eq C 118 dJ6_getChars_ba4f3_106 (by decide) (fun _ => ?_) (fun q => absurd (by decide) q)
  refine z_iload C dJ6_getChars_ba4f3_118 0 rfl ?_
  exact z_iret C hr9 hk (()) (rfl) (trivial) (List.Perm.refl _) dJ6_getChars_ba4f3_120 (Nat.le_refl _) (Nat.le_refl _)
def dgW (x k : Nat) (h : Nat → Nat) : Nat → Nat := if x < 10 then upN h k (dgO x) else upN (upN h (k + 1) (dgO x)) k (dgT x)
theorem dgW_8 {x k : Nat} {h : Nat → Nat} (hx : x < 100) (h8 : ∀ j, h j < 128) (j : Nat) : dgW x k h j < 128 := by
  simp only [dgW]
  split
  · exact up8 h8 (dgO_8 x) j
  · exact up8 (up8 h8 (dgO_8 x)) (dgT_8 hx) j
theorem dgW_lo {x k j : Nat} {h : Nat → Nat} (hj : j < k) : dgW x k h j = h j := by
  simp only [dgW]
  split
  · rw [upN_n (by omega)]
  · rw [upN_n (by omega), upN_n (by omega)]
theorem dgW_at {x k j : Nat} {h : Nat → Nat} (hx : x < 100) (hj : j < dgn x) : dgW x k h (k + j) = dgs x j := by
  simp only [dgn] at hj
  simp only [dgW, dgs]
  by_cases q : x < 10
  · rw [if_pos q] at hj
    rw [if_pos q, if_pos q, show k + j = k by omega, upN_s]
    simp only [dgO]
    omega
  · rw [if_neg q] at hj
    rw [if_neg q, if_neg q]
    by_cases z : j = 0
    · rw [if_pos z, show k + j = k by omega, upN_s]
      rfl
    · rw [if_neg z, show k + j = k + 1 by omega, upN_n (by omega), upN_s]
      rfl
theorem mJ6_getChars_ba4f3 (l : Launch) (D : va_G) (κ : Nat → ClassId) (dO dT : Nat) (a cap k x : Nat) (h : Nat → Nat) (hcap : cap ≤ 700) (hk0 : k + dgn x ≤ cap) (hx : x < 100) : zMc (dX dO dT) l yJ6_getChars_ba4f3 wsJ6_getChars_ba4f3 { frames := 0, cells := 0, slots := 0, locals := 0 } D (zTy κ) [.int (nI x), .int (nI (k + dgn x)), .ref a] (BAW κ a cap h) (S := Unit) (fun u => some (.int (nI k))) (fun u => True) (fun u => BAW κ a cap (dgW x k h)) 0 0 := by
  by_cases q : x < 10
  · have e1 : dgn x = 1 := by simp only [dgn]; rw [if_pos q]
    have e2 : dgW x k h = upN h k (dgO x) := by simp only [dgW]; rw [if_pos q]
    rw [e1] at hk0 ⊢
    rw [e2]
    exact mJ6_getChars_ba4f3_1 l D κ dO dT a cap k x h hcap hk0 hx q
  · have e1 : dgn x = 2 := by simp only [dgn]; rw [if_neg q]
    have e2 : dgW x k h = upN (upN h (k + 1) (dgO x)) k (dgT x) := by simp only [dgW]; rw [if_neg q]
    rw [e1] at hk0 ⊢
    rw [e2]
    exact mJ6_getChars_ba4f3_2 l D κ dO dT a cap k x h hcap hk0 hx (by omega)
set_option maxRecDepth 100000 in
set_option maxHeartbeats 4000000 in
theorem mJ5_append_c97b9 (l : Launch) (D : va_G) (κ : Nat → ClassId) (adK adV : Nat → Nat) (dO dT : Nat) (ba va cap n : Nat) (h : Nat → Nat) (x : Nat) (hcap : cap ≤ 700) (hnc : n ≤ cap) (hq : n + dgn x ≤ 300) (h8 : ∀ j, h j < 128) (hx : x < 100) : zMc (bX adK adV dO dT) l yJ5_append_c97b9 wsJ5_append_c97b9 { frames := 4, cells := 1, slots := 700, locals := 96 } D (zTy κ) [.ref (ba), .int (nI x)] (SBW κ ba va cap n h) (S := Nat × Nat × (Nat → Nat)) (fun u => some (.ref ba)) (fun u => SbP n (dgn x) (dgs x) h u) (fun u => SBW κ ba u.1 u.2.1 (n + dgn x) u.2.2) 1 700 := by
  refine zMc_of (cc := cJ5_append_c97b9) (maxL := 4) (rt := (some (.object "java/lang/AbstractStringBuilder"))) [(0, .ref (ba)), (1, .int (nI x))] (by decide +kernel) rfl (Nat.le_of_ble_eq_true rfl) rfl ?_
  intro p e s m args below meth c A C hr9 hk hnm hX
  have C : zC p s m args c cJ5_append_c97b9 4 wsJ5_append_c97b9 RJ5 D (zTy κ) A := C
  have hinJ4 : ∀ w ∈ wsJ40, w ∈ wsJ5_append_c97b9 := by decide +kernel
  refine z_aload_n C dJ5_append_c97b9_0 0 rfl ?_
  refine z_get C hinJ4 0 rfl rfl 3 (by decide) (show Cond.fieldLink RJ5 79 "java/lang/AbstractStringBuilder" "count" "I" ∈ wsJ5_append_c97b9 from by decide +kernel) rfl dJ5_append_c97b9_1 ?_
  refine z_istore_n C [(2, .int (nI n)), (0, .ref (ba)), (1, .int (nI x))] dJ5_append_c97b9_4 (by decide) rfl ?_
  refine z_iload_n C dJ5_append_c97b9_5 0 rfl ?_
  refine z_iload_n C dJ5_append_c97b9_6 2 rfl ?_
  refine z_callSc C (cX_ok adK adV) hX.1.1 (mJ6_stringSize_0f7a4 l D κ adK adV x hx) gJ5_append_c97b9_J6_stringSize_0f7a4 rfl rfl rfl (show yJ6_stringSize_0f7a4.cls ≠ "java/lang/invoke/MethodHandle" ∧ yJ6_stringSize_0f7a4.cls ≠ "java/lang/invoke/VarHandle" ∧ (parseMethodDescriptor yJ6_stringSize_0f7a4.desc).map (fun d => d.parameters.length) = some 1 from by decide +kernel) ⟨Nat.le_of_ble_eq_true rfl, Nat.le_of_ble_eq_true rfl⟩ (SBW κ ba va cap n h) (fun _ => SBW κ ba va cap n h) (List.Perm.refl _) (fun _ => List.Perm.refl _) rfl (Nat.le_of_ble_eq_true rfl) dJ5_append_c97b9_7 ⟨Nat.le_of_ble_eq_true rfl, Nat.le_of_ble_eq_true rfl⟩ (fun _ _ => ?_)
  refine zn_iadd C dJ5_append_c97b9_10 ?_
  refine z_istore_n C [(3, .int (nI (n + (dgn x)))), (2, .int (nI n)), (0, .ref (ba)), (1, .int (nI x))] dJ5_append_c97b9_11 (by decide) rfl ?_
  refine z_aload_n C dJ5_append_c97b9_12 2 rfl ?_
  refine z_iload_n C dJ5_append_c97b9_13 0 rfl ?_
  refine z_callUc C (cX_ok adK adV) hX.1.1 (mJ5_ensureCapacityInternal_d00df l D κ adK adV ba va cap n h (n + dgn x) (by omega) (by omega) h8) gJ5_append_c97b9_J5_ensureCapacityInternal_d00df_u100J4 rfl rfl rfl rfl (show "java/lang/AbstractStringBuilder" ≠ "java/lang/invoke/MethodHandle" ∧ "java/lang/AbstractStringBuilder" ≠ "java/lang/invoke/VarHandle" ∧ (parseMethodDescriptor "(I)V").map (fun d => d.parameters.length) = some 1 from by decide +kernel) ⟨Nat.le_of_ble_eq_true rfl, Nat.le_of_ble_eq_true rfl⟩ 0 rfl rfl ([]) (fun u => SBW κ ba u.1 u.2.1 n u.2.2) (zp_self) (fun _ => zp_self') rfl (Nat.le_of_ble_eq_true rfl) dJ5_append_c97b9_14 ⟨Nat.le_of_ble_eq_true rfl, Nat.le_of_ble_eq_true rfl⟩ (fun u hu => ?_)
  obtain ⟨va1, cap1, h1⟩ := u
  obtain ⟨e1, e2, e3, e4⟩ := hu
  dsimp only at e1 e2 e3 e4 ⊢
  refine z_aload_n C dJ5_append_c97b9_17 2 rfl ?_
  refine z_callUc C (cX_ok adK adV) hX.1.1 (mJ5_isLatin1_aae02 l D κ adK adV ba va1 cap1 n h1) gJ5_append_c97b9_J5_isLatin1_aae02_u83J4 rfl rfl rfl rfl (show "java/lang/AbstractStringBuilder" ≠ "java/lang/invoke/MethodHandle" ∧ "java/lang/AbstractStringBuilder" ≠ "java/lang/invoke/VarHandle" ∧ (parseMethodDescriptor "()Z").map (fun d => d.parameters.length) = some 0 from by decide +kernel) ⟨Nat.le_of_ble_eq_true rfl, Nat.le_of_ble_eq_true rfl⟩ 0 rfl rfl ([]) (fun _ => SBW κ ba va1 cap1 n h1) (zp_self) (fun _ => zp_self') rfl (Nat.le_of_ble_eq_true rfl) dJ5_append_c97b9_18 ⟨Nat.le_of_ble_eq_true rfl, Nat.le_of_ble_eq_true rfl⟩ (fun _ _ => ?_)
  refine z_if_eq C 37 dJ5_append_c97b9_21 (by decide) (fun q => absurd q (by decide)) (fun _ => ?_)
  refine z_iload_n C dJ5_append_c97b9_24 3 rfl ?_
  refine z_iload_n C dJ5_append_c97b9_25 0 rfl ?_
  refine z_aload_n C dJ5_append_c97b9_26 2 rfl ?_
  refine z_get C hinJ4 0 rfl rfl 0 (by decide) (show Cond.fieldLink RJ5 15 "java/lang/AbstractStringBuilder" "value" "[B" ∈ wsJ5_append_c97b9 from by decide +kernel) rfl dJ5_append_c97b9_27 ?_
  refine z_callSc C (dX_ok dO dT) hX.2 (mJ6_getChars_ba4f3 l D κ dO dT va1 cap1 n x h1 (by omega) (by omega) hx) gJ5_append_c97b9_J6_getChars_ba4f3 rfl rfl rfl (show yJ6_getChars_ba4f3.cls ≠ "java/lang/invoke/MethodHandle" ∧ yJ6_getChars_ba4f3.cls ≠ "java/lang/invoke/VarHandle" ∧ (parseMethodDescriptor yJ6_getChars_ba4f3.desc).map (fun d => d.parameters.length) = some 3 from by decide +kernel) ⟨Nat.le_of_ble_eq_true rfl, Nat.le_of_ble_eq_true rfl⟩ ([(ba, .inr (7, [.ref va1, .int (nI 0), .int (nI 0), .int (nI n)]))]) (fun _ => SBW κ ba va1 cap1 n (dgW x n h1)) (List.Perm.swap _ _ _) (fun _ => List.Perm.swap _ _ _) rfl (Nat.le_of_ble_eq_true rfl) dJ5_append_c97b9_30 ⟨Nat.le_of_ble_eq_true rfl, Nat.le_of_ble_eq_true rfl⟩ (fun _ _ => ?_)
  refine z_pop C dJ5_append_c97b9_33 rfl ?_
  refine z_goto (tgt := 48) C dJ5_append_c97b9_34 (by decide) ?_
  refine z_aload_n C dJ5_append_c97b9_48 2 rfl ?_
  refine z_iload_n C dJ5_append_c97b9_49 0 rfl ?_
  refine z_put C hinJ4 tyJ4 tyJ4_ok nmJ4 0 rfl rfl 3 (by decide) (show Cond.fieldLink RJ5 79 "java/lang/AbstractStringBuilder" "count" "I" ∈ wsJ5_append_c97b9 from by decide +kernel) rfl rfl rfl (Nat.le_of_ble_eq_true rfl) dJ5_append_c97b9_50 (SBW κ ba va1 cap1 (n + (dgn x)) (dgW x n h1)) rfl ?_
  refine z_aload_n C dJ5_append_c97b9_53 2 rfl ?_
  exact z_aret C hr9 hk ((va1, cap1, dgW x n h1)) (rfl) (⟨e1, e2, dgW_8 hx e3, fun j hj => (dgW_lo hj).trans (e4 j (by omega)), fun j hj => dgW_at hx hj⟩) (List.Perm.refl _) dJ5_append_c97b9_54 (Nat.le_refl _) (Nat.le_refl _)
set_option maxRecDepth 100000 in
set_option maxHeartbeats 4000000 in
theorem mJ4_append_bf812 (l : Launch) (D : va_G) (κ : Nat → ClassId) (adK adV : Nat → Nat) (dO dT : Nat) (ba va cap n : Nat) (h : Nat → Nat) (x : Nat) (hcap : cap ≤ 700) (hnc : n ≤ cap) (hq : n + dgn x ≤ 300) (h8 : ∀ j, h j < 128) (hx : x < 100) : zMc (bX adK adV dO dT) l yJ4_append_bf812 wsJ4_append_bf812 { frames := 5, cells := 1, slots := 700, locals := 119 } D (zTy κ) [.ref (ba), .int (nI x)] (SBW κ ba va cap n h) (S := Nat × Nat × (Nat → Nat)) (fun u => some (.ref ba)) (fun u => SbP n (dgn x) (dgs x) h u) (fun u => SBW κ ba u.1 u.2.1 (n + dgn x) u.2.2) 1 700 := by
  refine zMc_of (cc := cJ4_append_bf812) (maxL := 2) (rt := (some (.object "java/lang/StringBuilder"))) [(0, .ref (ba)), (1, .int (nI x))] (by decide +kernel) rfl (Nat.le_of_ble_eq_true rfl) rfl ?_
  intro p e s m args below meth c A C hr9 hk hnm hX
  have C : zC p s m args c cJ4_append_bf812 2 wsJ4_append_bf812 RJ4 D (zTy κ) A := C
  have hinJ4 : ∀ w ∈ wsJ40, w ∈ wsJ4_append_bf812 := by decide +kernel
  refine z_aload_n C dJ4_append_bf812_0 0 rfl ?_
  refine z_iload_n C dJ4_append_bf812_1 1 rfl ?_
  refine z_callWc C (bX_ok adK adV dO dT) hX (mJ5_append_c97b9 l D κ adK adV dO dT ba va cap n h x hcap hnc hq h8 hx) gJ4_append_bf812_J5_append_c97b9_s53 rfl rfl rfl (show yJ5_append_c97b9.name ≠ "<init>" ∧ (parseMethodDescriptor yJ5_append_c97b9.desc).map (fun d => d.parameters.length) = some 1 from by decide +kernel) ⟨Nat.le_of_ble_eq_true rfl, Nat.le_of_ble_eq_true rfl⟩ 0 rfl rfl ([]) (fun u => SBW κ ba u.1 u.2.1 (n + dgn x) u.2.2) (zp_self) (fun _ => zp_self') rfl (Nat.le_of_ble_eq_true rfl) dJ4_append_bf812_2 ⟨Nat.le_of_ble_eq_true rfl, Nat.le_of_ble_eq_true rfl⟩ (fun u hu => ?_)
  refine z_pop C dJ4_append_bf812_5 rfl ?_
  refine z_aload_n C dJ4_append_bf812_6 0 rfl ?_
  exact z_aret C hr9 hk (u) (rfl) (hu) (List.Perm.refl _) dJ4_append_bf812_7 (Nat.le_refl _) (Nat.le_refl _)
set_option maxRecDepth 100000 in
set_option maxHeartbeats 4000000 in
theorem mJ7_checkLength_df160 (l : Launch) (D : va_G) (κ : Nat → ClassId) (adK adV : Nat → Nat) (m9 : Nat) (hm : m9 ≤ 700) : zMc (cX adK adV) l yJ7_checkLength_df160 wsJ7_checkLength_df160 { frames := 0, cells := 0, slots := 0, locals := 0 } D (zTy κ) [.int (nI 0), .int (nI m9)] ([]) (S := Unit) (fun u => none) (fun u => True) (fun u => []) 0 0 := by
  refine zMc_of (cc := cJ7_checkLength_df160) (maxL := 2) (rt := none) [(0, .int (nI 0)), (1, .int (nI m9))] (by decide +kernel) rfl (Nat.le_of_ble_eq_true rfl) rfl ?_
  intro p e s m args below meth c A C hr9 hk hnm hX
  have C : zC p s m args c cJ7_checkLength_df160 2 wsJ7_checkLength_df160 RJ7 D (zTy κ) A := C
  refine z_iload_n C dJ7_checkLength_df160_0 1 rfl ?_
  refine z_iload_n C dJ7_checkLength_df160_1 0 rfl ?_
  refine zn_icmp_ge C 37 dJ7_checkLength_df160_2 (by decide) (by omega) (by omega) (fun h1 => ?_) (fun h2 => ?_)
  · exact z_vret C hr9 hk (()) (rfl) (trivial) (List.Perm.refl _) dJ7_checkLength_df160_37 (Nat.le_refl _) (Nat.le_refl _)
  · exfalso; omega
set_option maxRecDepth 100000 in
set_option maxHeartbeats 4000000 in
theorem mJ7_copyOfRangeByte_39247 (l : Launch) (D : va_G) (κ : Nat → ClassId) (adK adV : Nat → Nat) (a n m9 : Nat) (h : Nat → Nat) (hn : m9 ≤ n) (hq : n ≤ 700) (h8 : ∀ j, h j < 128) : zMc (cX adK adV) l yJ7_copyOfRangeByte_39247 wsJ7_copyOfRangeByte_39247 { frames := 1, cells := 1, slots := 700, locals := 26 } D (zTy κ) [.ref (a), .int (nI 0), .int (nI m9)] (BAW κ a n h) (S := Nat) (fun u => some (.ref u)) (fun u => True) (fun u => BAW κ a n h ++ (BAW κ u m9 (cpN h (fun _ => 0) 0 0 m9))) 1 700 := by
  refine zMc_of (cc := cJ7_copyOfRangeByte_39247) (maxL := 5) (rt := (some (.array .byte))) [(0, .ref (a)), (1, .int (nI 0)), (2, .int (nI m9))] (by decide +kernel) rfl (Nat.le_of_ble_eq_true rfl) rfl ?_
  intro p e s m args below meth c A C hr9 hk hnm hX
  have C : zC p s m args c cJ7_copyOfRangeByte_39247 5 wsJ7_copyOfRangeByte_39247 RJ7 D (zTy κ) A := C
  refine z_iload_n C dJ7_copyOfRangeByte_39247_0 1 rfl ?_
  refine z_iload_n C dJ7_copyOfRangeByte_39247_1 2 rfl ?_
  refine z_callSc C (cX_ok adK adV) hX (mJ7_checkLength_df160 l D κ adK adV m9 (by omega)) gJ7_copyOfRangeByte_39247_J7_checkLength_df160 rfl rfl rfl (show yJ7_checkLength_df160.cls ≠ "java/lang/invoke/MethodHandle" ∧ yJ7_checkLength_df160.cls ≠ "java/lang/invoke/VarHandle" ∧ (parseMethodDescriptor yJ7_checkLength_df160.desc).map (fun d => d.parameters.length) = some 2 from by decide +kernel) ⟨Nat.le_of_ble_eq_true rfl, Nat.le_of_ble_eq_true rfl⟩ (BAW κ a n h) (fun _ => BAW κ a n h) (List.Perm.refl _) (fun _ => List.Perm.refl _) rfl (Nat.le_of_ble_eq_true rfl) dJ7_copyOfRangeByte_39247_2 ⟨Nat.le_of_ble_eq_true rfl, Nat.le_of_ble_eq_true rfl⟩ (fun _ _ => ?_)
  refine z_iload_n C dJ7_copyOfRangeByte_39247_5 2 rfl ?_
  refine z_iload_n C dJ7_copyOfRangeByte_39247_6 1 rfl ?_
  refine zn_isub C dJ7_copyOfRangeByte_39247_7 (by omega) ?_
  rw [Nat.sub_zero]
  refine z_istore_n C [(3, .int (nI m9)), (0, .ref (a)), (1, .int (nI 0)), (2, .int (nI m9))] dJ7_copyOfRangeByte_39247_8 (by decide) rfl ?_
  refine z_iload_n C dJ7_copyOfRangeByte_39247_9 0 rfl ?_
  refine z_newa C (ty := .byte) (by decide +kernel) rfl 1 rfl hu_byte (N := m9) (a0 := (m9, .inl (nF (fun _ => 0)))) (fun _ => rfl) (by omega) (by decide) (Nat.le_of_ble_eq_true rfl) (show 0 + m9 ≤ 700 by omega) dJ7_copyOfRangeByte_39247_10 (fun qa => ?_)
  refine z_eq (ws' := BAW κ a n h ++ (BAW κ qa m9 (fun _ => 0))) ?_ (rfl) rfl rfl rfl
  refine z_astore C [(4, .ref (qa)), (3, .int (nI m9)), (0, .ref (a)), (1, .int (nI 0)), (2, .int (nI m9))] dJ7_copyOfRangeByte_39247_12 (by decide) rfl ?_
  refine z_aload_n C dJ7_copyOfRangeByte_39247_14 2 rfl ?_
  refine z_iload_n C dJ7_copyOfRangeByte_39247_15 3 rfl ?_
  refine z_aload C dJ7_copyOfRangeByte_39247_16 0 rfl ?_
  refine z_iconst (v := nI 0) C dJ7_copyOfRangeByte_39247_18 (by decide) ?_
  refine z_aload_n C dJ7_copyOfRangeByte_39247_19 2 rfl ?_
  refine z_alen C 0 1 rfl rfl dJ7_copyOfRangeByte_39247_20 ?_
  refine z_iload_n C dJ7_copyOfRangeByte_39247_21 3 rfl ?_
  refine zn_isub C dJ7_copyOfRangeByte_39247_22 (by omega) ?_
  rw [Nat.sub_zero]
  refine z_iload_n C dJ7_copyOfRangeByte_39247_23 1 rfl ?_
  refine zn_min C (show Cond.methodLink RJ7 304 Lib.Math.min.name ∈ wsJ7_copyOfRangeByte_39247 from by decide +kernel) (by decide +kernel) (by decide +kernel) (by decide +kernel) (by omega) (by omega) ⟨Nat.le_of_ble_eq_true rfl, Nat.le_of_ble_eq_true rfl⟩ (Nat.le_of_ble_eq_true rfl) dJ7_copyOfRangeByte_39247_24 ⟨Nat.le_of_ble_eq_true rfl, (show 0 + m9 ≤ 700 by omega)⟩ ?_
  rw [show (if m9 < n then m9 else n) = m9 from by split <;> omega]
  refine z_copyb C (by decide +kernel) (by decide +kernel) (by decide +kernel) (by decide +kernel) 0 1 1 rfl rfl rfl (by omega) (by omega) (by omega) (by omega) (fun _ _ => nfit (h8 _)) ⟨Nat.le_of_ble_eq_true rfl, Nat.le_of_ble_eq_true rfl⟩ (Nat.le_of_ble_eq_true rfl) dJ7_copyOfRangeByte_39247_27 (BAW κ a n h ++ (BAW κ qa m9 (cpN h (fun _ => 0) 0 0 m9))) (by rw [va_cpyN]; rfl) ?_
  refine z_aload C dJ7_copyOfRangeByte_39247_30 0 rfl ?_
  exact z_aretA C hr9 hk (qa) (rfl) (trivial) (List.Perm.refl _) dJ7_copyOfRangeByte_39247_32 (Nat.le_refl _) (show 0 + m9 ≤ 700 by omega)
set_option maxRecDepth 100000 in
set_option maxHeartbeats 4000000 in
theorem mJ7_copyOfRange_39247 (l : Launch) (D : va_G) (κ : Nat → ClassId) (adK adV : Nat → Nat) (a n m9 : Nat) (h : Nat → Nat) (hn : m9 ≤ n) (hq : n ≤ 700) (h8 : ∀ j, h j < 128) : zMc (tX adK adV) l yJ7_copyOfRange_39247 wsJ7_copyOfRange_39247 { frames := 2, cells := 1, slots := 700, locals := 50 } D (zTy κ) [.ref (a), .int (nI 0), .int (nI m9)] (BAW κ a n h) (S := Nat × (Nat → Nat)) (fun u => some (.ref u.1)) (fun u => (∀ j, u.2 j < 128) ∧ ∀ j, j < m9 → u.2 j = h j) (fun u => BAW κ a n h ++ (BAW κ u.1 m9 u.2)) 1 700 := by
  refine zMc_of (cc := cJ7_copyOfRange_39247) (maxL := 3) (rt := (some (.array .byte))) [(0, .ref (a)), (1, .int (nI 0)), (2, .int (nI m9))] (by decide +kernel) rfl (Nat.le_of_ble_eq_true rfl) rfl ?_
  intro p e s m args below meth c A C hr9 hk hnm hX
  have C : zC p s m args c cJ7_copyOfRange_39247 3 wsJ7_copyOfRange_39247 RJ7 D (zTy κ) A := C
  refine z_iload_n C dJ7_copyOfRange_39247_0 1 rfl ?_
  refine z_if_ne C 10 dJ7_copyOfRange_39247_1 (by decide) (fun q => absurd (by decide) q) (fun _ => ?_)
  refine z_iload_n C dJ7_copyOfRange_39247_4 2 rfl ?_
  refine z_aload_n C dJ7_copyOfRange_39247_5 0 rfl ?_
  refine z_alen C 0 1 rfl rfl dJ7_copyOfRange_39247_6 ?_
  refine zn_icmp_eq C 17 dJ7_copyOfRange_39247_7 (by decide) (by omega) (by omega) (fun h1 => ?_) (fun h2 => ?_)
  · refine z_aload_n C dJ7_copyOfRange_39247_17 0 rfl ?_
    refine z_clone C (by decide +kernel) (by decide +kernel) (by decide +kernel) (by decide +kernel) (by decide +kernel) hX.2 0 1 rfl rfl (fun _ _ => nfit (h8 _)) ⟨Nat.le_of_ble_eq_true rfl, Nat.le_of_ble_eq_true rfl⟩ (Nat.le_of_ble_eq_true rfl) ⟨Nat.le_of_ble_eq_true rfl, (show 0 + n ≤ 700 by omega)⟩ dJ7_copyOfRange_39247_18 (fun qa => ?_)
    refine z_castB C (by decide +kernel) 1 1 rfl rfl dJ7_copyOfRange_39247_21 ?_
    exact z_aretA C hr9 hk ((qa, h)) (rfl) (⟨h8, fun _ _ => rfl⟩) (List.Perm.of_eq (by rw [show m9 = n by omega])) dJ7_copyOfRange_39247_24 (Nat.le_refl _) (show 0 + n ≤ 700 by omega)
  · refine z_aload_n C dJ7_copyOfRange_39247_10 0 rfl ?_
    refine z_iload_n C dJ7_copyOfRange_39247_11 1 rfl ?_
    refine z_iload_n C dJ7_copyOfRange_39247_12 2 rfl ?_
    refine z_callSc C (cX_ok adK adV) hX.1 (mJ7_copyOfRangeByte_39247 l D κ adK adV a n m9 h hn hq h8) gJ7_copyOfRange_39247_J7_copyOfRangeByte_39247 rfl rfl rfl (show yJ7_copyOfRangeByte_39247.cls ≠ "java/lang/invoke/MethodHandle" ∧ yJ7_copyOfRangeByte_39247.cls ≠ "java/lang/invoke/VarHandle" ∧ (parseMethodDescriptor yJ7_copyOfRangeByte_39247.desc).map (fun d => d.parameters.length) = some 3 from by decide +kernel) ⟨Nat.le_of_ble_eq_true rfl, Nat.le_of_ble_eq_true rfl⟩ ([]) (fun u => BAW κ a n h ++ (BAW κ u m9 (cpN h (fun _ => 0) 0 0 m9))) (zp_self) (fun _ => zp_self') rfl (Nat.le_of_ble_eq_true rfl) dJ7_copyOfRange_39247_13 ⟨Nat.le_of_ble_eq_true rfl, Nat.le_of_ble_eq_true rfl⟩ (fun qa _ => ?_)
    exact z_aretA C hr9 hk ((qa, cpN h (fun _ => 0) 0 0 m9)) (rfl) (⟨cpN_8 h8 (fun _ => by decide), fun j hj => by show cpN h (fun _ => 0) 0 0 m9 j = h j; simp only [cpN]; rw [if_pos (by omega), Nat.zero_add, Nat.sub_zero]⟩) (List.Perm.refl _) dJ7_copyOfRange_39247_16 (Nat.le_refl _) (Nat.le_refl _)
set_option maxRecDepth 100000 in
set_option maxHeartbeats 4000000 in
theorem mJ0_init_db425 (l : Launch) (D : va_G) (κ : Nat → ClassId) (adK adV : Nat → Nat) (sa : Nat) (ba va cap n : Nat) (h : Nat → Nat) (hcap : cap ≤ 700) (hnc : n ≤ cap) (h8 : ∀ j, h j < 128) : zMc (tX adK adV) l yJ0_init_db425 wsJ0_init_db425 { frames := 3, cells := 1, slots := 700, locals := 72 } D (zTy κ) [.ref (sa), .ref (ba), .null] ([(sa, .inr (6, [.null, .int (nI 0), .int (nI 0), .int (nI 0)]))] ++ (SBW κ ba va cap n h)) (S := Nat × (Nat → Nat)) (fun u => none) (fun u => (∀ j, u.2 j < 128) ∧ ∀ j, j < n → u.2 j = h j) (fun u => STW κ sa u.1 n u.2) 1 700 := by
  refine zMc_of (cc := cJ0_init_db425) (maxL := 5) (rt := none) [(0, .ref (sa)), (1, .ref (ba)), (2, .null)] (by decide +kernel) rfl (Nat.le_of_ble_eq_true rfl) rfl ?_
  intro p e s m args below meth c A C hr9 hk hnm hX
  have C : zC p s m args c cJ0_init_db425 5 wsJ0_init_db425 RJ0 D (zTy κ) A := C
  have hinJ0 : ∀ w ∈ wsJ00, w ∈ wsJ0_init_db425 := by decide +kernel
  have hinJ4 : ∀ w ∈ wsJ40, w ∈ wsJ0_init_db425 := by decide +kernel
  refine z_aload_n C dJ0_init_db425_0 0 rfl ?_
  refine z_oinit C (show Cond.methodLink RJ0 1 Lib.objectInit ∈ wsJ0_init_db425 from by decide +kernel) (by decide +kernel) (by decide +kernel) ⟨Nat.le_of_ble_eq_true rfl, Nat.le_of_ble_eq_true rfl⟩ (Nat.le_of_ble_eq_true rfl) dJ0_init_db425_1 ?_
  refine z_aload_n C dJ0_init_db425_4 1 rfl ?_
  refine z_callUc C (cX_ok adK adV) hX.1 (mJ5_getValue_6d5f1 l D κ adK adV ba va cap n h) gJ0_init_db425_J5_getValue_6d5f1_u552J4 rfl rfl rfl rfl (show "java/lang/AbstractStringBuilder" ≠ "java/lang/invoke/MethodHandle" ∧ "java/lang/AbstractStringBuilder" ≠ "java/lang/invoke/VarHandle" ∧ (parseMethodDescriptor "()[B").map (fun d => d.parameters.length) = some 0 from by decide +kernel) ⟨Nat.le_of_ble_eq_true rfl, Nat.le_of_ble_eq_true rfl⟩ 0 rfl rfl ([(sa, .inr (6, [.null, .int (nI 0), .int (nI 0), .int (nI 0)]))]) (fun _ => [(sa, .inr (6, [.null, .int (nI 0), .int (nI 0), .int (nI 0)]))] ++ (SBW κ ba va cap n h)) (List.perm_append_comm) (fun _ => List.perm_append_comm) rfl (Nat.le_of_ble_eq_true rfl) dJ0_init_db425_5 ⟨Nat.le_of_ble_eq_true rfl, Nat.le_of_ble_eq_true rfl⟩ (fun _ _ => ?_)
  refine z_astore_n C [(3, .ref (va)), (0, .ref (sa)), (1, .ref (ba)), (2, .null)] dJ0_init_db425_8 (by decide) rfl ?_
  refine z_aload_n C dJ0_init_db425_9 2 rfl ?_
  refine z_callOc C (cX_ok adK adV) hX.1 (mJ4_length_8abf5 l D κ adK adV ba va cap n h) gJ0_init_db425_J4_length_8abf5_u549J4 (show Cond.code ⟨"java/lang/AbstractStringBuilder", "length", "()I"⟩ cJ5_length_8abf5 1 (some .int) ∈ wsJ0_init_db425 from by decide +kernel) rfl rfl rfl (show "java/lang/AbstractStringBuilder" ≠ "java/lang/invoke/MethodHandle" ∧ "java/lang/AbstractStringBuilder" ≠ "java/lang/invoke/VarHandle" ∧ (parseMethodDescriptor "()I").map (fun d => d.parameters.length) = some 0 from by decide +kernel) ⟨Nat.le_of_ble_eq_true rfl, Nat.le_of_ble_eq_true rfl⟩ 0 rfl rfl ([(sa, .inr (6, [.null, .int (nI 0), .int (nI 0), .int (nI 0)]))]) (fun _ => [(sa, .inr (6, [.null, .int (nI 0), .int (nI 0), .int (nI 0)]))] ++ (SBW κ ba va cap n h)) (List.perm_append_comm) (fun _ => List.perm_append_comm) rfl (Nat.le_of_ble_eq_true rfl) dJ0_init_db425_10 ⟨Nat.le_of_ble_eq_true rfl, Nat.le_of_ble_eq_true rfl⟩ (fun _ _ => ?_)
  refine z_istore C [(4, .int (nI n)), (3, .ref (va)), (0, .ref (sa)), (1, .ref (ba)), (2, .null)] dJ0_init_db425_13 (by decide) rfl ?_
  refine z_aload_n C dJ0_init_db425_15 3 rfl ?_
  refine z_callUc C (cX_ok adK adV) hX.1 (mJ5_isLatin1_aae02 l D κ adK adV ba va cap n h) gJ0_init_db425_J5_isLatin1_aae02_u1047J4 rfl rfl rfl rfl (show "java/lang/AbstractStringBuilder" ≠ "java/lang/invoke/MethodHandle" ∧ "java/lang/AbstractStringBuilder" ≠ "java/lang/invoke/VarHandle" ∧ (parseMethodDescriptor "()Z").map (fun d => d.parameters.length) = some 0 from by decide +kernel) ⟨Nat.le_of_ble_eq_true rfl, Nat.le_of_ble_eq_true rfl⟩ 0 rfl rfl ([(sa, .inr (6, [.null, .int (nI 0), .int (nI 0), .int (nI 0)]))]) (fun _ => [(sa, .inr (6, [.null, .int (nI 0), .int (nI 0), .int (nI 0)]))] ++ (SBW κ ba va cap n h)) (List.perm_append_comm) (fun _ => List.perm_append_comm) rfl (Nat.le_of_ble_eq_true rfl) dJ0_init_db425_16 ⟨Nat.le_of_ble_eq_true rfl, Nat.le_of_ble_eq_true rfl⟩ (fun _ _ => ?_)
  refine z_if_eq C 41 dJ0_init_db425_19 (by decide) (fun q => absurd q (by decide)) (fun _ => ?_)
  refine z_aload_n C dJ0_init_db425_22 2 rfl ?_
  refine z_iconst (v := nI 0) C dJ0_init_db425_23 (by decide) ?_
  refine z_putF C hinJ0 tyJ0 tyJ0_ok nmJ0 hnm 0 rfl rfl 1 (by decide) (show Cond.fieldLink RJ0 15 "java/lang/String" "coder" "B" ∈ wsJ0_init_db425 from by decide +kernel) rfl rfl rfl rfl (Nat.le_of_ble_eq_true rfl) dJ0_init_db425_24 ([(sa, .inr (6, [.null, .int (nI 0), .int (nI 0), .int (nI 0)]))] ++ (SBW κ ba va cap n h)) rfl ?_
  refine z_aload_n C dJ0_init_db425_27 2 rfl ?_
  refine z_aload_n C dJ0_init_db425_28 1 rfl ?_
  refine z_iconst (v := nI 0) C dJ0_init_db425_29 (by decide) ?_
  refine z_iload C dJ0_init_db425_30 0 rfl ?_
  refine z_callSc C (tX_ok adK adV) hX (mJ7_copyOfRange_39247 l D κ adK adV va cap n h hnc hcap h8) gJ0_init_db425_J7_copyOfRange_39247 rfl rfl rfl (show yJ7_copyOfRange_39247.cls ≠ "java/lang/invoke/MethodHandle" ∧ yJ7_copyOfRange_39247.cls ≠ "java/lang/invoke/VarHandle" ∧ (parseMethodDescriptor yJ7_copyOfRange_39247.desc).map (fun d => d.parameters.length) = some 3 from by decide +kernel) ⟨Nat.le_of_ble_eq_true rfl, Nat.le_of_ble_eq_true rfl⟩ (([(sa, Sum.inr (6, [Value.null, Value.int (nI 0), Value.int (nI 0), Value.int (nI 0)]))] ++ [(ba, Sum.inr (7, [Value.ref va, Value.int (nI 0), Value.int (nI 0), Value.int (nI n)]))] : va_W)) (fun u => ([(sa, Sum.inr (6, [Value.null, Value.int (nI 0), Value.int (nI 0), Value.int (nI 0)]))] ++ ([(ba, Sum.inr (7, [Value.ref va, Value.int (nI 0), Value.int (nI 0), Value.int (nI n)]))] ++ (BAW κ va cap h ++ BAW κ u.1 n u.2)) : va_W)) (pm_3a (a := ([(sa, Sum.inr (6, [Value.null, Value.int (nI 0), Value.int (nI 0), Value.int (nI 0)]))] : va_W)) (b := ([(ba, Sum.inr (7, [Value.ref va, Value.int (nI 0), Value.int (nI 0), Value.int (nI n)]))] : va_W)) (c := BAW κ va cap h)) (fun u => pm_3b) rfl (Nat.le_of_ble_eq_true rfl) dJ0_init_db425_32 ⟨Nat.le_of_ble_eq_true rfl, Nat.le_of_ble_eq_true rfl⟩ (fun u hu => ?_)
  obtain ⟨sv, h1⟩ := u
  obtain ⟨e3, e4⟩ := hu
  dsimp only at e3 e4 ⊢
  refine z_putF C hinJ0 tyJ0 tyJ0_ok nmJ0 hnm 0 rfl rfl 0 (by decide) (show Cond.fieldLink RJ0 9 "java/lang/String" "value" "[B" ∈ wsJ0_init_db425 from by decide +kernel) rfl rfl rfl rfl (Nat.le_of_ble_eq_true rfl) dJ0_init_db425_35 ([(sa, .inr (6, [.ref (sv), .int (nI 0), .int (nI 0), .int (nI 0)]))] ++ (SBW κ ba va cap n h ++ (BAW κ sv n h1))) rfl ?_
  refine z_goto (tgt := 97) C dJ0_init_db425_38 (by decide) ?_
  refine z_drop (w' := STW κ sa sv n h1) (SBW κ ba va cap n h) (List.Perm.cons _ ((List.perm_append_comm : ([(ba, Sum.inr (7, [Value.ref va, .int (nI 0), .int (nI 0), .int (nI n)])), (va, Sum.inl (κ 1, cap, .inl (nF h)))] ++ [(sv, Sum.inl (κ 1, n, .inl (nF h1)))] : va_W).Perm _))) ?_
  exact z_vret C hr9 hk ((sv, h1)) (rfl) (⟨e3, e4⟩) (List.Perm.refl _) dJ0_init_db425_97 (Nat.le_refl _) (Nat.le_refl _)
set_option maxRecDepth 100000 in
set_option maxHeartbeats 4000000 in
theorem mJ0_init_81219 (l : Launch) (D : va_G) (κ : Nat → ClassId) (adK adV : Nat → Nat) (sa : Nat) (ba va cap n : Nat) (h : Nat → Nat) (hcap : cap ≤ 700) (hnc : n ≤ cap) (h8 : ∀ j, h j < 128) : zMc (tX adK adV) l yJ0_init_81219 wsJ0_init_81219 { frames := 4, cells := 1, slots := 700, locals := 96 } D (zTy κ) [.ref (sa), .ref (ba)] ([(sa, .inr (6, [.null, .int (nI 0), .int (nI 0), .int (nI 0)]))] ++ (SBW κ ba va cap n h)) (S := Nat × (Nat → Nat)) (fun u => none) (fun u => (∀ j, u.2 j < 128) ∧ ∀ j, j < n → u.2 j = h j) (fun u => STW κ sa u.1 n u.2) 1 700 := by
  refine zMc_of (cc := cJ0_init_81219) (maxL := 2) (rt := none) [(0, .ref (sa)), (1, .ref (ba))] (by decide +kernel) rfl (Nat.le_of_ble_eq_true rfl) rfl ?_
  intro p e s m args below meth c A C hr9 hk hnm hX
  have C : zC p s m args c cJ0_init_81219 2 wsJ0_init_81219 RJ0 D (zTy κ) A := C
  have hinJ0 : ∀ w ∈ wsJ00, w ∈ wsJ0_init_81219 := by decide +kernel
  have hinJ4 : ∀ w ∈ wsJ40, w ∈ wsJ0_init_81219 := by decide +kernel
  refine z_aload_n C dJ0_init_81219_0 0 rfl ?_
  refine z_aload_n C dJ0_init_81219_1 1 rfl ?_
  refine z_null C dJ0_init_81219_2 ?_
  refine z_callIc C (tX_ok adK adV) hX (mJ0_init_db425 l D κ adK adV sa ba va cap n h hcap hnc h8) (fun _ => rfl) gJ0_init_81219_J0_init_db425 rfl rfl rfl (by decide +kernel) (by decide +kernel) (by decide +kernel) rfl (show yJ0_init_db425.cls ≠ "java/lang/invoke/MethodHandle" ∧ yJ0_init_db425.cls ≠ "java/lang/invoke/VarHandle" ∧ (parseMethodDescriptor yJ0_init_db425.desc).map (fun d => d.parameters.length) = some 2 from by decide +kernel) ⟨Nat.le_of_ble_eq_true rfl, Nat.le_of_ble_eq_true rfl⟩ ([]) (fun u => STW κ sa u.1 n u.2) (zp_self) (fun _ => zp_self') rfl (Nat.le_of_ble_eq_true rfl) dJ0_init_81219_3 ⟨Nat.le_of_ble_eq_true rfl, Nat.le_of_ble_eq_true rfl⟩ (fun u hu => ?_)
  exact z_vret C hr9 hk (u) (rfl) (hu) (List.Perm.refl _) dJ0_init_81219_6 (Nat.le_refl _) (Nat.le_refl _)
set_option maxRecDepth 100000 in
set_option maxHeartbeats 4000000 in
theorem mJ4_toString_0e30d (l : Launch) (D : va_G) (κ : Nat → ClassId) (adK adV : Nat → Nat) (ba va cap n : Nat) (h : Nat → Nat) (hcap : cap ≤ 700) (hnc : n ≤ cap) (h8 : ∀ j, h j < 128) : zMc (tX adK adV) l yJ4_toString_0e30d wsJ4_toString_0e30d { frames := 5, cells := 2, slots := 704, locals := 117 } D (zTy κ) [.ref (ba)] (SBW κ ba va cap n h) (S := Nat × Nat × (Nat → Nat)) (fun u => some (.ref u.1)) (fun u => (∀ j, u.2.2 j < 128) ∧ ∀ j, j < n → u.2.2 j = h j) (fun u => STW κ u.1 u.2.1 n u.2.2) 2 704 := by
  refine zMc_of (cc := cJ4_toString_0e30d) (maxL := 1) (rt := (some (.object "java/lang/String"))) [(0, .ref (ba))] (by decide +kernel) rfl (Nat.le_of_ble_eq_true rfl) rfl ?_
  intro p e s m args below meth c A C hr9 hk hnm hX
  have C : zC p s m args c cJ4_toString_0e30d 1 wsJ4_toString_0e30d RJ4 D (zTy κ) A := C
  have hinJ0 : ∀ w ∈ wsJ00, w ∈ wsJ4_toString_0e30d := by decide +kernel
  have hinJ4 : ∀ w ∈ wsJ40, w ∈ wsJ4_toString_0e30d := by decide +kernel
  refine z_new (ci := 6) C hinJ0 tyJ0 tyJ0_ok (show Cond.classLink RJ4 18 RJ0 ∈ wsJ4_toString_0e30d from by decide +kernel) (show Cond.instantiable RJ0 4 ∈ wsJ4_toString_0e30d from by decide +kernel) (show Cond.initialized RJ0 ∈ wsJ4_toString_0e30d from by decide +kernel) rfl (fs := [.null, .int (nI 0), .int (nI 0), .int (nI 0)]) (fun j hj => by rcases (show j = 0 ∨ j = 1 ∨ j = 2 ∨ j = 3 by omega) with rfl | rfl | rfl | rfl <;> rfl) (Nat.le_of_ble_eq_true rfl) (Nat.le_of_ble_eq_true rfl) dJ4_toString_0e30d_0 (fun sa => ?_)
  refine z_ws (ws' := [(sa, .inr (6, [.null, .int (nI 0), .int (nI 0), .int (nI 0)]))] ++ (SBW κ ba va cap n h)) List.perm_append_comm ?_
  refine z_dup C dJ4_toString_0e30d_3 rfl ?_
  refine z_aload_n C dJ4_toString_0e30d_4 0 rfl ?_
  refine z_callIc C (tX_ok adK adV) hX (mJ0_init_81219 l D κ adK adV sa ba va cap n h hcap hnc h8) (fun _ => rfl) gJ4_toString_0e30d_J0_init_81219 rfl rfl rfl (by decide +kernel) (by decide +kernel) (by decide +kernel) rfl (show yJ0_init_81219.cls ≠ "java/lang/invoke/MethodHandle" ∧ yJ0_init_81219.cls ≠ "java/lang/invoke/VarHandle" ∧ (parseMethodDescriptor yJ0_init_81219.desc).map (fun d => d.parameters.length) = some 1 from by decide +kernel) ⟨Nat.le_of_ble_eq_true rfl, Nat.le_of_ble_eq_true rfl⟩ ([]) (fun u => STW κ sa u.1 n u.2) (zp_self) (fun _ => zp_self') rfl (Nat.le_of_ble_eq_true rfl) dJ4_toString_0e30d_5 ⟨Nat.le_of_ble_eq_true rfl, Nat.le_of_ble_eq_true rfl⟩ (fun u hu => ?_)
  exact z_aret C hr9 hk ((sa, u.1, u.2)) (rfl) (hu) (List.Perm.refl _) dJ4_toString_0e30d_8 (Nat.le_refl _) (Nat.le_refl _)
set_option maxRecDepth 100000 in
set_option maxHeartbeats 4000000 in
theorem mJ0_coder_7d493_s (l : Launch) (D : va_G) (κ : Nat → ClassId) (adK adV : Nat → Nat) (sa sv m9 : Nat) (h : Nat → Nat)  : zMc (cX adK adV) l yJ0_coder_7d493 wsJ0_coder_7d493 { frames := 0, cells := 0, slots := 0, locals := 0 } D (zTy κ) [.ref (sa)] (STW κ sa sv m9 h) (S := Unit) (fun u => some (.int (nI 0))) (fun u => True) (fun u => STW κ sa sv m9 h) 0 0 := by
  refine zMc_of (cc := cJ0_coder_7d493) (maxL := 1) (rt := (some .byte)) [(0, .ref (sa))] (by decide +kernel) rfl (Nat.le_of_ble_eq_true rfl) rfl ?_
  intro p e s m args below meth c A C hr9 hk hnm hX
  have C : zC p s m args c cJ0_coder_7d493 1 wsJ0_coder_7d493 RJ0 D (zTy κ) A := C
  have hinJ0 : ∀ w ∈ wsJ00, w ∈ wsJ0_coder_7d493 := by decide +kernel
  refine zx_compact C hX (by decide +kernel) dJ0_coder_7d493_0 ?_
  refine z_if_eq C 13 dJ0_coder_7d493_3 (by decide) (fun q => absurd q (by decide)) (fun _ => ?_)
  refine z_aload_n C dJ0_coder_7d493_6 0 rfl ?_
  refine z_get C hinJ0 0 rfl rfl 1 (by decide) (show Cond.fieldLink RJ0 15 "java/lang/String" "coder" "B" ∈ wsJ0_coder_7d493 from by decide +kernel) rfl dJ0_coder_7d493_7 ?_
  refine z_goto (tgt := 14) C dJ0_coder_7d493_10 (by decide) ?_
  exact z_zret C hr9 hk (by decide) (()) (rfl) (trivial) (List.Perm.refl _) dJ0_coder_7d493_14 (Nat.le_refl _) (Nat.le_refl _)
set_option maxRecDepth 100000 in
set_option maxHeartbeats 4000000 in
theorem mJ0_isLatin1_aae02_s (l : Launch) (D : va_G) (κ : Nat → ClassId) (adK adV : Nat → Nat) (sa sv m9 : Nat) (h : Nat → Nat)  : zMc (cX adK adV) l yJ0_isLatin1_aae02 wsJ0_isLatin1_aae02 { frames := 0, cells := 0, slots := 0, locals := 0 } D (zTy κ) [.ref (sa)] (STW κ sa sv m9 h) (S := Unit) (fun u => some (.int (nI 1))) (fun u => True) (fun u => STW κ sa sv m9 h) 0 0 := by
  refine zMc_of (cc := cJ0_isLatin1_aae02) (maxL := 1) (rt := (some .boolean)) [(0, .ref (sa))] (by decide +kernel) rfl (Nat.le_of_ble_eq_true rfl) rfl ?_
  intro p e s m args below meth c A C hr9 hk hnm hX
  have C : zC p s m args c cJ0_isLatin1_aae02 1 wsJ0_isLatin1_aae02 RJ0 D (zTy κ) A := C
  have hinJ0 : ∀ w ∈ wsJ00, w ∈ wsJ0_isLatin1_aae02 := by decide +kernel
  refine zx_compact C hX (by decide +kernel) dJ0_isLatin1_aae02_0 ?_
  refine z_if_eq C 17 dJ0_isLatin1_aae02_3 (by decide) (fun q => absurd q (by decide)) (fun _ => ?_)
  refine z_aload_n C dJ0_isLatin1_aae02_6 0 rfl ?_
  refine z_get C hinJ0 0 rfl rfl 1 (by decide) (show Cond.fieldLink RJ0 15 "java/lang/String" "coder" "B" ∈ wsJ0_isLatin1_aae02 from by decide +kernel) rfl dJ0_isLatin1_aae02_7 ?_
  refine z_if_ne C 17 dJ0_isLatin1_aae02_10 (by decide) (fun q => absurd (by decide) q) (fun _ => ?_)
  refine z_iconst (v := nI 1) C dJ0_isLatin1_aae02_13 (by decide) ?_
  refine z_goto (tgt := 18) C dJ0_isLatin1_aae02_14 (by decide) ?_
  exact z_zret C hr9 hk (by decide) (()) (rfl) (trivial) (List.Perm.refl _) dJ0_isLatin1_aae02_18 (Nat.le_refl _) (Nat.le_refl _)
set_option maxRecDepth 100000 in
set_option maxHeartbeats 4000000 in
theorem mJ0_length_8abf5_s (l : Launch) (D : va_G) (κ : Nat → ClassId) (adK adV : Nat → Nat) (sa sv m9 : Nat) (h : Nat → Nat)  : zMc (cX adK adV) l yJ0_length_8abf5 wsJ0_length_8abf5 { frames := 1, cells := 0, slots := 0, locals := 20 } D (zTy κ) [.ref (sa)] (STW κ sa sv m9 h) (S := Unit) (fun u => some (.int (nI m9))) (fun u => True) (fun u => STW κ sa sv m9 h) 0 0 := by
  refine zMc_of (cc := cJ0_length_8abf5) (maxL := 1) (rt := (some .int)) [(0, .ref (sa))] (by decide +kernel) rfl (Nat.le_of_ble_eq_true rfl) rfl ?_
  intro p e s m args below meth c A C hr9 hk hnm hX
  have C : zC p s m args c cJ0_length_8abf5 1 wsJ0_length_8abf5 RJ0 D (zTy κ) A := C
  have hinJ0 : ∀ w ∈ wsJ00, w ∈ wsJ0_length_8abf5 := by decide +kernel
  refine z_aload_n C dJ0_length_8abf5_0 0 rfl ?_
  refine z_get C hinJ0 0 rfl rfl 0 (by decide) (show Cond.fieldLink RJ0 9 "java/lang/String" "value" "[B" ∈ wsJ0_length_8abf5 from by decide +kernel) rfl dJ0_length_8abf5_1 ?_
  refine z_alen C 1 1 rfl rfl dJ0_length_8abf5_4 ?_
  refine z_aload_n C dJ0_length_8abf5_5 0 rfl ?_
  refine z_callVc C (cX_ok adK adV) hX (mJ0_coder_7d493_s l D κ adK adV sa sv m9 h) gJ0_length_8abf5_J0_coder_7d493 rfl rfl rfl (show yJ0_coder_7d493.cls = RJ0 ∧ yJ0_coder_7d493.cls ≠ "java/lang/invoke/MethodHandle" ∧ yJ0_coder_7d493.cls ≠ "java/lang/invoke/VarHandle" ∧ (parseMethodDescriptor yJ0_coder_7d493.desc).map (fun d => d.parameters.length) = some 0 from by decide +kernel) ⟨Nat.le_of_ble_eq_true rfl, Nat.le_of_ble_eq_true rfl⟩ 0 rfl rfl ([]) (fun _ => STW κ sa sv m9 h) (zp_self) (fun _ => zp_self') rfl (Nat.le_of_ble_eq_true rfl) dJ0_length_8abf5_6 ⟨Nat.le_of_ble_eq_true rfl, Nat.le_of_ble_eq_true rfl⟩ (fun _ _ => ?_)
  refine z_shr0 C dJ0_length_8abf5_9 ?_
  exact z_iret C hr9 hk (()) (rfl) (trivial) (List.Perm.refl _) dJ0_length_8abf5_10 (Nat.le_refl _) (Nat.le_refl _)
set_option maxRecDepth 100000 in
set_option maxHeartbeats 4000000 in
theorem mJ1_charAt_3b067_s (l : Launch) (D : va_G) (κ : Nat → ClassId) (adK adV : Nat → Nat) (a n k : Nat) (h : Nat → Nat) (hk0 : k < n) (hn : n ≤ 700) (h8 : ∀ j, h j < 128) : zMc (cX adK adV) l yJ1_charAt_3b067 wsJ1_charAt_3b067 { frames := 2, cells := 0, slots := 0, locals := 43 } D (zTy κ) [.ref (a), .int (nI k)] (BAW κ a n h) (S := Unit) (fun u => some (.int (nI (h k)))) (fun u => True) (fun u => BAW κ a n h) 0 0 := by
  refine zMc_of (cc := cJ1_charAt_3b067) (maxL := 2) (rt := (some .char)) [(0, .ref (a)), (1, .int (nI k))] (by decide +kernel) rfl (Nat.le_of_ble_eq_true rfl) rfl ?_
  intro p e s m args below meth c A C hr9 hk hnm hX
  have C : zC p s m args c cJ1_charAt_3b067 2 wsJ1_charAt_3b067 RJ1 D (zTy κ) A := C
  refine z_iload_n C dJ1_charAt_3b067_0 1 rfl ?_
  refine z_aload_n C dJ1_charAt_3b067_1 0 rfl ?_
  refine z_alen C 0 1 rfl rfl dJ1_charAt_3b067_2 ?_
  refine z_callSc C (cX_ok adK adV) hX (mJ0_checkIndex_df160 l D κ adK adV k n hk0 (by omega)) gJ1_charAt_3b067_J0_checkIndex_df160 rfl rfl rfl (show yJ0_checkIndex_df160.cls ≠ "java/lang/invoke/MethodHandle" ∧ yJ0_checkIndex_df160.cls ≠ "java/lang/invoke/VarHandle" ∧ (parseMethodDescriptor yJ0_checkIndex_df160.desc).map (fun d => d.parameters.length) = some 2 from by decide +kernel) ⟨Nat.le_of_ble_eq_true rfl, Nat.le_of_ble_eq_true rfl⟩ (BAW κ a n h) (fun _ => BAW κ a n h) (List.Perm.refl _) (fun _ => List.Perm.refl _) rfl (Nat.le_of_ble_eq_true rfl) dJ1_charAt_3b067_3 ⟨Nat.le_of_ble_eq_true rfl, Nat.le_of_ble_eq_true rfl⟩ (fun _ _ => ?_)
  refine z_aload_n C dJ1_charAt_3b067_6 0 rfl ?_
  refine z_iload_n C dJ1_charAt_3b067_7 1 rfl ?_
  refine z_bald C 0 1 rfl rfl (by omega) (by omega) dJ1_charAt_3b067_8 ?_
  refine z_sipush (v := nI 255) C dJ1_charAt_3b067_9 (by decide) ?_
  refine z_iand C dJ1_charAt_3b067_12 ?_
  refine z_i2c C dJ1_charAt_3b067_13 (sc_ch (h k) (h8 k)).2.1 ?_
  exact z_zret C hr9 hk (sc_ch (h k) (h8 k)).2.2 (()) (rfl) (trivial) (List.Perm.refl _) dJ1_charAt_3b067_14 (Nat.le_refl _) (Nat.le_refl _)
set_option maxRecDepth 100000 in
set_option maxHeartbeats 4000000 in
theorem mJ0_charAt_5068e_s (l : Launch) (D : va_G) (κ : Nat → ClassId) (adK adV : Nat → Nat) (sa sv m9 : Nat) (h : Nat → Nat) (k : Nat) (hk0 : k < m9) (hn : m9 ≤ 700) (h8 : ∀ j, h j < 128) : zMc (cX adK adV) l yJ0_charAt_5068e wsJ0_charAt_5068e { frames := 3, cells := 0, slots := 0, locals := 64 } D (zTy κ) [.ref (sa), .int (nI k)] (STW κ sa sv m9 h) (S := Unit) (fun u => some (.int (nI (h k)))) (fun u => True) (fun u => STW κ sa sv m9 h) 0 0 := by
  refine zMc_of (cc := cJ0_charAt_5068e) (maxL := 2) (rt := (some .char)) [(0, .ref (sa)), (1, .int (nI k))] (by decide +kernel) rfl (Nat.le_of_ble_eq_true rfl) rfl ?_
  intro p e s m args below meth c A C hr9 hk hnm hX
  have C : zC p s m args c cJ0_charAt_5068e 2 wsJ0_charAt_5068e RJ0 D (zTy κ) A := C
  have hinJ0 : ∀ w ∈ wsJ00, w ∈ wsJ0_charAt_5068e := by decide +kernel
  refine z_aload_n C dJ0_charAt_5068e_0 0 rfl ?_
  refine z_callVc C (cX_ok adK adV) hX (mJ0_isLatin1_aae02_s l D κ adK adV sa sv m9 h) gJ0_charAt_5068e_J0_isLatin1_aae02 rfl rfl rfl (show yJ0_isLatin1_aae02.cls = RJ0 ∧ yJ0_isLatin1_aae02.cls ≠ "java/lang/invoke/MethodHandle" ∧ yJ0_isLatin1_aae02.cls ≠ "java/lang/invoke/VarHandle" ∧ (parseMethodDescriptor yJ0_isLatin1_aae02.desc).map (fun d => d.parameters.length) = some 0 from by decide +kernel) ⟨Nat.le_of_ble_eq_true rfl, Nat.le_of_ble_eq_true rfl⟩ 0 rfl rfl ([]) (fun _ => STW κ sa sv m9 h) (zp_self) (fun _ => zp_self') rfl (Nat.le_of_ble_eq_true rfl) dJ0_charAt_5068e_1 ⟨Nat.le_of_ble_eq_true rfl, Nat.le_of_ble_eq_true rfl⟩ (fun _ _ => ?_)
  refine z_if_eq C 16 dJ0_charAt_5068e_4 (by decide) (fun q => absurd q (by decide)) (fun _ => ?_)
  refine z_aload_n C dJ0_charAt_5068e_7 0 rfl ?_
  refine z_get C hinJ0 0 rfl rfl 0 (by decide) (show Cond.fieldLink RJ0 9 "java/lang/String" "value" "[B" ∈ wsJ0_charAt_5068e from by decide +kernel) rfl dJ0_charAt_5068e_8 ?_
  refine z_iload_n C dJ0_charAt_5068e_11 1 rfl ?_
  refine z_callSc C (cX_ok adK adV) hX (mJ1_charAt_3b067_s l D κ adK adV sv m9 k h hk0 hn h8) gJ0_charAt_5068e_J1_charAt_3b067 rfl rfl rfl (show yJ1_charAt_3b067.cls ≠ "java/lang/invoke/MethodHandle" ∧ yJ1_charAt_3b067.cls ≠ "java/lang/invoke/VarHandle" ∧ (parseMethodDescriptor yJ1_charAt_3b067.desc).map (fun d => d.parameters.length) = some 2 from by decide +kernel) ⟨Nat.le_of_ble_eq_true rfl, Nat.le_of_ble_eq_true rfl⟩ ([(sa, .inr (6, [.ref sv, .int (nI 0), .int (nI 0), .int (nI 0)]))]) (fun _ => STW κ sa sv m9 h) (List.Perm.swap _ _ _) (fun _ => List.Perm.swap _ _ _) rfl (Nat.le_of_ble_eq_true rfl) dJ0_charAt_5068e_12 ⟨Nat.le_of_ble_eq_true rfl, Nat.le_of_ble_eq_true rfl⟩ (fun _ _ => ?_)
  exact z_zret C hr9 hk (sc_ch (h k) (h8 k)).2.2 (()) (rfl) (trivial) (List.Perm.refl _) dJ0_charAt_5068e_15 (Nat.le_refl _) (Nat.le_refl _)
end JS2
