section JS
abbrev SBW (κ : Nat → ClassId) (ba va cap n : Nat) (h : Nat → Nat) : va_W := [(ba, .inr (7, [.ref va, .int (nI 0), .int (nI 0), .int (nI n)])), (va, .inl (κ 1, cap, .inl (nF h)))]
abbrev STW (κ : Nat → ClassId) (sa sv m : Nat) (h : Nat → Nat) : va_W := [(sa, .inr (6, [.ref sv, .int (nI 0), .int (nI 0), .int (nI 0)])), (sv, .inl (κ 1, m, .inl (nF h)))]
abbrev BAW (κ : Nat → ClassId) (a n : Nat) (h : Nat → Nat) : va_W := [(a, .inl (κ 1, n, .inl (nF h)))]
def cpN (h g : Nat → Nat) (sp dp n : Nat) : Nat → Nat := fun j => if dp ≤ j ∧ j < dp + n then h (sp + (j - dp)) else g j
theorem va_cpyN (h g : Nat → Nat) (sp dp n : Nat) : va_cpy (nF h) (nF g) sp dp n = nF (cpN h g sp dp n) := by
  funext j
  simp only [va_cpy, nF, cpN]
  split <;> rfl
theorem cpN_8 {h g : Nat → Nat} {sp dp n : Nat} (h1 : ∀ j, h j < 128) (h2 : ∀ j, g j < 128) (j : Nat) : cpN h g sp dp n j < 128 := by
  simp only [cpN]
  split
  · exact h1 _
  · exact h2 _
def cpL (i n : Nat) (h : Nat → Nat) : Nat → Nat := fun j => if n ≤ j ∧ j < n + sLen.getD i 0 then sCh i (j - n) else h j
theorem cpL_8 {i n : Nat} {h : Nat → Nat} (hi : i < 28) (h1 : ∀ j, h j < 128) (j : Nat) : cpL i n h j < 128 := by
  simp only [cpL]
  split
  · exact ((sc_all i hi).2.2 (j - n) (by omega)).2
  · exact h1 _
/-- k letters t laid behind n letters of h: what the builder holds -/
def SbP (n k : Nat) (t h : Nat → Nat) (u : Nat × Nat × (Nat → Nat)) : Prop := n + k ≤ u.2.1 ∧ u.2.1 ≤ 700 ∧ (∀ j, u.2.2 j < 128) ∧ (∀ j, j < n → u.2.2 j = h j) ∧ ∀ j, j < k → u.2.2 (n + j) = t j
theorem sub_le0 {q c : Nat} (h : q ≤ c) (hc : c < 1073741824) : nI q - nI c ≤ 0 := by
  rw [Int32.le_iff_toInt_le, pk_sub_toInt (by omega) (by omega), Int32.toInt_zero]
  omega
theorem up8 {h : Nat → Nat} {k x : Nat} (h1 : ∀ j, h j < 128) (hx : x < 128) (j : Nat) : upN h k x j < 128 := by
  rw [upN_if]
  split
  · exact hx
  · exact h1 _
theorem pm_rot {α : Type} {a b c : List α} : (a ++ (b ++ c)).Perm (b ++ (a ++ c)) := by
  classical
  exact List.perm_iff_count.mpr (fun x => by simp only [List.count_append]; omega)
set_option maxRecDepth 100000 in
set_option maxHeartbeats 4000000 in
theorem mJ5_isLatin1_aae02 (l : Launch) (D : va_G) (κ : Nat → ClassId) (adK adV : Nat → Nat) (ba va cap n : Nat) (h : Nat → Nat)  : zMc (cX adK adV) l yJ5_isLatin1_aae02 wsJ5_isLatin1_aae02 { frames := 0, cells := 0, slots := 0, locals := 0 } D (zTy κ) [.ref (ba)] (SBW κ ba va cap n h) (S := Unit) (fun u => some (.int (nI 1))) (fun u => True) (fun u => SBW κ ba va cap n h) 0 0 := by
  refine zMc_of (cc := cJ5_isLatin1_aae02) (maxL := 1) (rt := (some .boolean)) [(0, .ref (ba))] (by decide +kernel) rfl (Nat.le_of_ble_eq_true rfl) rfl ?_
  intro p e s m args below meth c A C hr9 hk hnm hX
  have C : zC p s m args c cJ5_isLatin1_aae02 1 wsJ5_isLatin1_aae02 RJ5 D (zTy κ) A := C
  have hinJ4 : ∀ w ∈ wsJ40, w ∈ wsJ5_isLatin1_aae02 := by decide +kernel
  refine zx_compact C hX (by decide +kernel) dJ5_isLatin1_aae02_0 ?_
  refine z_if_eq C 17 dJ5_isLatin1_aae02_3 (by decide) (fun q => absurd q (by decide)) (fun _ => ?_)
  refine z_aload_n C dJ5_isLatin1_aae02_6 0 rfl ?_
  refine z_get C hinJ4 0 rfl rfl 1 (by decide) (show Cond.fieldLink RJ5 22 "java/lang/AbstractStringBuilder" "coder" "B" ∈ wsJ5_isLatin1_aae02 from by decide +kernel) rfl dJ5_isLatin1_aae02_7 ?_
  refine z_if_ne C 17 dJ5_isLatin1_aae02_10 (by decide) (fun q => absurd (by decide) q) (fun _ => ?_)
  refine z_iconst (v := nI 1) C dJ5_isLatin1_aae02_13 (by decide) ?_
  refine z_goto (tgt := 18) C dJ5_isLatin1_aae02_14 (by decide) ?_
  exact z_zret C hr9 hk (by decide) (()) (rfl) (trivial) (List.Perm.refl _) dJ5_isLatin1_aae02_18 (Nat.le_refl _) (Nat.le_refl _)
set_option maxRecDepth 100000 in
set_option maxHeartbeats 4000000 in
theorem mJ5_getValue_6d5f1 (l : Launch) (D : va_G) (κ : Nat → ClassId) (adK adV : Nat → Nat) (ba va cap n : Nat) (h : Nat → Nat)  : zMc (cX adK adV) l yJ5_getValue_6d5f1 wsJ5_getValue_6d5f1 { frames := 0, cells := 0, slots := 0, locals := 0 } D (zTy κ) [.ref (ba)] (SBW κ ba va cap n h) (S := Unit) (fun u => some (.ref va)) (fun u => True) (fun u => SBW κ ba va cap n h) 0 0 := by
  refine zMc_of (cc := cJ5_getValue_6d5f1) (maxL := 1) (rt := (some (.array .byte))) [(0, .ref (ba))] (by decide +kernel) rfl (Nat.le_of_ble_eq_true rfl) rfl ?_
  intro p e s m args below meth c A C hr9 hk hnm hX
  have C : zC p s m args c cJ5_getValue_6d5f1 1 wsJ5_getValue_6d5f1 RJ5 D (zTy κ) A := C
  have hinJ4 : ∀ w ∈ wsJ40, w ∈ wsJ5_getValue_6d5f1 := by decide +kernel
  refine z_aload_n C dJ5_getValue_6d5f1_0 0 rfl ?_
  refine z_get C hinJ4 0 rfl rfl 0 (by decide) (show Cond.fieldLink RJ5 15 "java/lang/AbstractStringBuilder" "value" "[B" ∈ wsJ5_getValue_6d5f1 from by decide +kernel) rfl dJ5_getValue_6d5f1_1 ?_
  exact z_aretA C hr9 hk (()) (rfl) (trivial) (List.Perm.refl _) dJ5_getValue_6d5f1_4 (Nat.le_refl _) (Nat.le_refl _)
set_option maxRecDepth 100000 in
set_option maxHeartbeats 4000000 in
theorem mJ5_length_8abf5 (l : Launch) (D : va_G) (κ : Nat → ClassId) (adK adV : Nat → Nat) (ba va cap n : Nat) (h : Nat → Nat)  : zMc (cX adK adV) l yJ5_length_8abf5 wsJ5_length_8abf5 { frames := 0, cells := 0, slots := 0, locals := 0 } D (zTy κ) [.ref (ba)] (SBW κ ba va cap n h) (S := Unit) (fun u => some (.int (nI n))) (fun u => True) (fun u => SBW κ ba va cap n h) 0 0 := by
  refine zMc_of (cc := cJ5_length_8abf5) (maxL := 1) (rt := (some .int)) [(0, .ref (ba))] (by decide +kernel) rfl (Nat.le_of_ble_eq_true rfl) rfl ?_
  intro p e s m args below meth c A C hr9 hk hnm hX
  have C : zC p s m args c cJ5_length_8abf5 1 wsJ5_length_8abf5 RJ5 D (zTy κ) A := C
  have hinJ4 : ∀ w ∈ wsJ40, w ∈ wsJ5_length_8abf5 := by decide +kernel
  refine z_aload_n C dJ5_length_8abf5_0 0 rfl ?_
  refine z_get C hinJ4 0 rfl rfl 3 (by decide) (show Cond.fieldLink RJ5 79 "java/lang/AbstractStringBuilder" "count" "I" ∈ wsJ5_length_8abf5 from by decide +kernel) rfl dJ5_length_8abf5_1 ?_
  exact z_iret C hr9 hk (()) (rfl) (trivial) (List.Perm.refl _) dJ5_length_8abf5_4 (Nat.le_refl _) (Nat.le_refl _)
set_option maxRecDepth 100000 in
set_option maxHeartbeats 4000000 in
theorem mJ4_length_8abf5 (l : Launch) (D : va_G) (κ : Nat → ClassId) (adK adV : Nat → Nat) (ba va cap n : Nat) (h : Nat → Nat)  : zMc (cX adK adV) l yJ4_length_8abf5 wsJ4_length_8abf5 { frames := 1, cells := 0, slots := 0, locals := 20 } D (zTy κ) [.ref (ba)] (SBW κ ba va cap n h) (S := Unit) (fun u => some (.int (nI n))) (fun u => True) (fun u => SBW κ ba va cap n h) 0 0 := by
  refine zMc_of (cc := cJ4_length_8abf5) (maxL := 1) (rt := (some .int)) [(0, .ref (ba))] (by decide +kernel) rfl (Nat.le_of_ble_eq_true rfl) rfl ?_
  intro p e s m args below meth c A C hr9 hk hnm hX
  have C : zC p s m args c cJ4_length_8abf5 1 wsJ4_length_8abf5 RJ4 D (zTy κ) A := C
  have hinJ4 : ∀ w ∈ wsJ40, w ∈ wsJ4_length_8abf5 := by decide +kernel
  refine z_aload_n C dJ4_length_8abf5_0 0 rfl ?_
  refine z_callWc C (cX_ok adK adV) hX (mJ5_length_8abf5 l D κ adK adV ba va cap n h) gJ4_length_8abf5_J5_length_8abf5_s343 rfl rfl rfl (show yJ5_length_8abf5.name ≠ "<init>" ∧ (parseMethodDescriptor yJ5_length_8abf5.desc).map (fun d => d.parameters.length) = some 0 from by decide +kernel) ⟨Nat.le_of_ble_eq_true rfl, Nat.le_of_ble_eq_true rfl⟩ 0 rfl rfl ([]) (fun _ => SBW κ ba va cap n h) (zp_self) (fun _ => zp_self') rfl (Nat.le_of_ble_eq_true rfl) dJ4_length_8abf5_1 ⟨Nat.zero_le _, Nat.zero_le _⟩ (fun _ _ => ?_)
  exact z_iret C hr9 hk (()) (rfl) (trivial) (List.Perm.refl _) dJ4_length_8abf5_4 (Nat.le_refl _) (Nat.le_refl _)
set_option maxRecDepth 100000 in
set_option maxHeartbeats 4000000 in
theorem mJ8_newLength_cabcc (l : Launch) (D : va_G) (κ : Nat → ClassId) (adK adV : Nat → Nat) (o mi pf : Nat) (ho : o ≤ 700) (h1 : 1 ≤ mi) (h2 : mi ≤ 2000) (h3 : pf ≤ 2000) : zMc (cX adK adV) l yJ8_newLength_cabcc wsJ8_newLength_cabcc { frames := 1, cells := 0, slots := 0, locals := 26 } D (zTy κ) [.int (nI o), .int (nI mi), .int (nI pf)] ([]) (S := Unit) (fun u => some (.int (nI (o + if mi < pf then pf else mi)))) (fun u => True) (fun u => []) 0 0 := by
  refine zMc_of (cc := cJ8_newLength_cabcc) (maxL := 4) (rt := (some .int)) [(0, .int (nI o)), (1, .int (nI mi)), (2, .int (nI pf))] (by decide +kernel) rfl (Nat.le_of_ble_eq_true rfl) rfl ?_
  intro p e s m args below meth c A C hr9 hk hnm hX
  have C : zC p s m args c cJ8_newLength_cabcc 4 wsJ8_newLength_cabcc RJ8 D (zTy κ) A := C
  have h9 : (if mi < pf then pf else mi) ≤ 2000 := by split <;> omega
  have h90 : 1 ≤ (if mi < pf then pf else mi) := by split <;> omega
  refine z_iload_n C dJ8_newLength_cabcc_0 0 rfl ?_
  refine z_iload_n C dJ8_newLength_cabcc_1 1 rfl ?_
  refine z_iload_n C dJ8_newLength_cabcc_2 2 rfl ?_
  refine zn_max C (show Cond.methodLink RJ8 194 Lib.Math.max.name ∈ wsJ8_newLength_cabcc from by decide +kernel) (by decide +kernel) (by decide +kernel) (by decide +kernel) (by omega) (by omega) ⟨Nat.le_of_ble_eq_true rfl, Nat.le_of_ble_eq_true rfl⟩ (Nat.le_of_ble_eq_true rfl) dJ8_newLength_cabcc_3 ⟨Nat.zero_le _, Nat.zero_le _⟩ ?_
  refine zn_iadd C dJ8_newLength_cabcc_6 ?_
  refine z_istore_n C [(3, .int (nI (o + (if mi < pf then pf else mi)))), (0, .int (nI o)), (1, .int (nI mi)), (2, .int (nI pf))] dJ8_newLength_cabcc_7 (by decide) rfl ?_
  refine z_iconst (v := nI 0) C dJ8_newLength_cabcc_8 (by decide) ?_
  refine z_iload_n C dJ8_newLength_cabcc_9 0 rfl ?_
  refine zn_icmp_ge C 21 dJ8_newLength_cabcc_10 (by decide) (by omega) (by omega) (fun h1 => ?_) (fun h2 => ?_)
  · exfalso; omega
  · refine z_iload_n C dJ8_newLength_cabcc_13 0 rfl ?_
    refine z_ldc (v := nI 2147483639) C (show Cond.constant RJ8 200 (nI 2147483639) ∈ wsJ8_newLength_cabcc from by decide +kernel) dJ8_newLength_cabcc_14 ?_
    refine zn_icmp_gt C 21 dJ8_newLength_cabcc_16 (by decide) (by omega) (by omega) (fun h3 => ?_) (fun h4 => ?_)
    · exfalso; omega
    · refine z_iload_n C dJ8_newLength_cabcc_19 0 rfl ?_
      exact z_iret C hr9 hk (()) (rfl) (trivial) (List.Perm.refl _) dJ8_newLength_cabcc_20 (Nat.le_refl _) (Nat.le_refl _)
set_option maxRecDepth 100000 in
set_option maxHeartbeats 4000000 in
theorem mJ5_newCapacity_0f7a4 (l : Launch) (D : va_G) (κ : Nat → ClassId) (adK adV : Nat → Nat) (ba va cap n : Nat) (h : Nat → Nat) (q : Nat) (hcap : cap ≤ 700) (hq : cap < q) (hq2 : q ≤ 1000) : zMc (cX adK adV) l yJ5_newCapacity_0f7a4 wsJ5_newCapacity_0f7a4 { frames := 2, cells := 0, slots := 0, locals := 49 } D (zTy κ) [.ref (ba), .int (nI q)] (SBW κ ba va cap n h) (S := Unit) (fun u => some (.int (nI (cap + if q - cap < cap + 2 then cap + 2 else q - cap)))) (fun u => True) (fun u => SBW κ ba va cap n h) 0 0 := by
  refine zMc_of (cc := cJ5_newCapacity_0f7a4) (maxL := 6) (rt := (some .int)) [(0, .ref (ba)), (1, .int (nI q))] (by decide +kernel) rfl (Nat.le_of_ble_eq_true rfl) rfl ?_
  intro p e s m args below meth c A C hr9 hk hnm hX
  have C : zC p s m args c cJ5_newCapacity_0f7a4 6 wsJ5_newCapacity_0f7a4 RJ5 D (zTy κ) A := C
  have hinJ4 : ∀ w ∈ wsJ40, w ∈ wsJ5_newCapacity_0f7a4 := by decide +kernel
  have h9 : (if q - cap < cap + 2 then cap + 2 else q - cap) ≤ 2000 := by split <;> omega
  refine z_aload_n C dJ5_newCapacity_0f7a4_0 0 rfl ?_
  refine z_get C hinJ4 0 rfl rfl 0 (by decide) (show Cond.fieldLink RJ5 15 "java/lang/AbstractStringBuilder" "value" "[B" ∈ wsJ5_newCapacity_0f7a4 from by decide +kernel) rfl dJ5_newCapacity_0f7a4_1 ?_
  refine z_alen C 1 1 rfl rfl dJ5_newCapacity_0f7a4_4 ?_
  refine z_istore_n C [(2, .int (nI cap)), (0, .ref (ba)), (1, .int (nI q))] dJ5_newCapacity_0f7a4_5 (by decide) rfl ?_
  refine z_iload_n C dJ5_newCapacity_0f7a4_6 2 rfl ?_
  refine z_aload_n C dJ5_newCapacity_0f7a4_7 1 rfl ?_
  refine z_get C hinJ4 0 rfl rfl 1 (by decide) (show Cond.fieldLink RJ5 22 "java/lang/AbstractStringBuilder" "coder" "B" ∈ wsJ5_newCapacity_0f7a4 from by decide +kernel) rfl dJ5_newCapacity_0f7a4_8 ?_
  refine z_shl0 C dJ5_newCapacity_0f7a4_11 ?_
  refine z_istore_n C [(3, .int (nI q)), (2, .int (nI cap)), (0, .ref (ba)), (1, .int (nI q))] dJ5_newCapacity_0f7a4_12 (by decide) rfl ?_
  refine z_iload_n C dJ5_newCapacity_0f7a4_13 0 rfl ?_
  refine z_iload_n C dJ5_newCapacity_0f7a4_14 1 rfl ?_
  refine zn_isub C dJ5_newCapacity_0f7a4_15 (by omega) ?_
  refine z_istore C [(4, .int (nI (q - cap))), (3, .int (nI q)), (2, .int (nI cap)), (0, .ref (ba)), (1, .int (nI q))] dJ5_newCapacity_0f7a4_16 (by decide) rfl ?_
  refine z_iload_n C dJ5_newCapacity_0f7a4_18 2 rfl ?_
  refine z_iload C dJ5_newCapacity_0f7a4_19 0 rfl ?_
  refine z_iload_n C dJ5_newCapacity_0f7a4_21 2 rfl ?_
  refine z_iconst (v := nI 2) C dJ5_newCapacity_0f7a4_22 (by decide) ?_
  refine z_aload_n C dJ5_newCapacity_0f7a4_23 3 rfl ?_
  refine z_get C hinJ4 0 rfl rfl 1 (by decide) (show Cond.fieldLink RJ5 22 "java/lang/AbstractStringBuilder" "coder" "B" ∈ wsJ5_newCapacity_0f7a4 from by decide +kernel) rfl dJ5_newCapacity_0f7a4_24 ?_
  refine z_shl0 C dJ5_newCapacity_0f7a4_27 ?_
  refine zn_iadd C dJ5_newCapacity_0f7a4_28 ?_
  refine z_callSc C (cX_ok adK adV) hX (mJ8_newLength_cabcc l D κ adK adV cap (q - cap) (cap + 2) (by omega) (by omega) (by omega) (by omega)) gJ5_newCapacity_0f7a4_J8_newLength_cabcc rfl rfl rfl (show yJ8_newLength_cabcc.cls ≠ "java/lang/invoke/MethodHandle" ∧ yJ8_newLength_cabcc.cls ≠ "java/lang/invoke/VarHandle" ∧ (parseMethodDescriptor yJ8_newLength_cabcc.desc).map (fun d => d.parameters.length) = some 3 from by decide +kernel) ⟨Nat.le_of_ble_eq_true rfl, Nat.le_of_ble_eq_true rfl⟩ (SBW κ ba va cap n h) (fun _ => SBW κ ba va cap n h) (List.Perm.refl _) (fun _ => List.Perm.refl _) rfl (Nat.le_of_ble_eq_true rfl) dJ5_newCapacity_0f7a4_29 ⟨Nat.zero_le _, Nat.zero_le _⟩ (fun _ _ => ?_)
  refine z_istore C [(5, .int (nI (cap + if q - cap < cap + 2 then cap + 2 else q - cap))), (4, .int (nI (q - cap))), (3, .int (nI q)), (2, .int (nI cap)), (0, .ref (ba)), (1, .int (nI q))] dJ5_newCapacity_0f7a4_32 (by decide) rfl ?_
  refine z_iload C dJ5_newCapacity_0f7a4_34 0 rfl ?_
  refine z_ldc (v := nI 2147483647) C (show Cond.constant RJ5 39 (nI 2147483647) ∈ wsJ5_newCapacity_0f7a4 from by decide +kernel) dJ5_newCapacity_0f7a4_36 ?_
  refine zn_icmp_ne C 51 dJ5_newCapacity_0f7a4_38 (by decide) (by omega) (by omega) (fun h1 => ?_) (fun h2 => ?_)
  · refine z_iload C dJ5_newCapacity_0f7a4_51 0 rfl ?_
    refine z_aload_n C dJ5_newCapacity_0f7a4_53 4 rfl ?_
    refine z_get C hinJ4 0 rfl rfl 1 (by decide) (show Cond.fieldLink RJ5 22 "java/lang/AbstractStringBuilder" "coder" "B" ∈ wsJ5_newCapacity_0f7a4 from by decide +kernel) rfl dJ5_newCapacity_0f7a4_54 ?_
    refine z_shr0 C dJ5_newCapacity_0f7a4_57 ?_
    exact z_iret C hr9 hk (()) (rfl) (trivial) (List.Perm.refl _) dJ5_newCapacity_0f7a4_58 (Nat.le_refl _) (Nat.le_refl _)
  · exfalso; omega
set_option maxRecDepth 100000 in
set_option maxHeartbeats 4000000 in
theorem mJ7_copyOf_9075b (l : Launch) (D : va_G) (κ : Nat → ClassId) (adK adV : Nat → Nat) (a n q : Nat) (h : Nat → Nat) (hn : n < q) (hq : q ≤ 700) (h8 : ∀ j, h j < 128) : zMc (cX adK adV) l yJ7_copyOf_9075b wsJ7_copyOf_9075b { frames := 1, cells := 1, slots := 700, locals := 26 } D (zTy κ) [.ref (a), .int (nI q)] (BAW κ a n h) (S := Nat) (fun u => some (.ref u)) (fun u => True) (fun u => BAW κ a n h ++ (BAW κ u q (cpN h (fun _ => 0) 0 0 n))) 1 700 := by
  refine zMc_of (cc := cJ7_copyOf_9075b) (maxL := 3) (rt := (some (.array .byte))) [(0, .ref (a)), (1, .int (nI q))] (by decide +kernel) rfl (Nat.le_of_ble_eq_true rfl) rfl ?_
  intro p e s m args below meth c A C hr9 hk hnm hX
  have C : zC p s m args c cJ7_copyOf_9075b 3 wsJ7_copyOf_9075b RJ7 D (zTy κ) A := C
  refine z_iload_n C dJ7_copyOf_9075b_0 1 rfl ?_
  refine z_aload_n C dJ7_copyOf_9075b_1 0 rfl ?_
  refine z_alen C 0 1 rfl rfl dJ7_copyOf_9075b_2 ?_
  refine zn_icmp_ne C 14 dJ7_copyOf_9075b_3 (by decide) (by omega) (by omega) (fun h1 => ?_) (fun h2 => ?_)
  · refine z_iload_n C dJ7_copyOf_9075b_14 1 rfl ?_
    refine z_newa C (ty := .byte) (by decide +kernel) rfl 1 rfl hu_byte (N := q) (a0 := (q, .inl (nF (fun _ => 0)))) (fun _ => rfl) (by omega) (by decide) (Nat.le_of_ble_eq_true rfl) (show 0 + q ≤ 700 by omega) dJ7_copyOf_9075b_15 (fun qa => ?_)
    refine z_eq (ws' := BAW κ a n h ++ (BAW κ qa q (fun _ => 0))) ?_ (rfl) rfl rfl rfl
    refine z_astore_n C [(2, .ref (qa)), (0, .ref (a)), (1, .int (nI q))] dJ7_copyOf_9075b_17 (by decide) rfl ?_
    refine z_aload_n C dJ7_copyOf_9075b_18 1 rfl ?_
    refine z_iconst (v := nI 0) C dJ7_copyOf_9075b_19 (by decide) ?_
    refine z_aload_n C dJ7_copyOf_9075b_20 0 rfl ?_
    refine z_iconst (v := nI 0) C dJ7_copyOf_9075b_21 (by decide) ?_
    refine z_aload_n C dJ7_copyOf_9075b_22 1 rfl ?_
    refine z_alen C 0 1 rfl rfl dJ7_copyOf_9075b_23 ?_
    refine z_iload_n C dJ7_copyOf_9075b_24 2 rfl ?_
    refine zn_min C (show Cond.methodLink RJ7 304 Lib.Math.min.name ∈ wsJ7_copyOf_9075b from by decide +kernel) (by decide +kernel) (by decide +kernel) (by decide +kernel) (by omega) (by omega) ⟨Nat.le_of_ble_eq_true rfl, Nat.le_of_ble_eq_true rfl⟩ (Nat.le_of_ble_eq_true rfl) dJ7_copyOf_9075b_25 ⟨Nat.le_of_ble_eq_true rfl, (show 0 + q ≤ 700 by omega)⟩ ?_
    rw [show (if q < n then q else n) = n from if_neg (by omega)]
    refine z_copyb C (by decide +kernel) (by decide +kernel) (by decide +kernel) (by decide +kernel) 0 1 1 rfl rfl rfl (by omega) (by omega) (by omega) (by omega) (fun _ _ => nfit (h8 _)) ⟨Nat.le_of_ble_eq_true rfl, Nat.le_of_ble_eq_true rfl⟩ (Nat.le_of_ble_eq_true rfl) dJ7_copyOf_9075b_28 (BAW κ a n h ++ (BAW κ qa q (cpN h (fun _ => 0) 0 0 n))) (by rw [va_cpyN]; rfl) ?_
    refine z_aload_n C dJ7_copyOf_9075b_31 0 rfl ?_
    exact z_aretA C hr9 hk (qa) (rfl) (trivial) (List.Perm.refl _) dJ7_copyOf_9075b_32 (Nat.le_refl _) (show 0 + q ≤ 700 by omega)
  · exfalso; omega
set_option maxRecDepth 100000 in
set_option maxHeartbeats 4000000 in
theorem mJ5_ensureCapacityInternal_d00df (l : Launch) (D : va_G) (κ : Nat → ClassId) (adK adV : Nat → Nat) (ba va cap n : Nat) (h : Nat → Nat) (q : Nat) (hcap : cap ≤ 700) (hq : q ≤ 300) (h8 : ∀ j, h j < 128) : zMc (cX adK adV) l yJ5_ensureCapacityInternal_d00df wsJ5_ensureCapacityInternal_d00df { frames := 3, cells := 1, slots := 700, locals := 74 } D (zTy κ) [.ref (ba), .int (nI q)] (SBW κ ba va cap n h) (S := Nat × Nat × (Nat → Nat)) (fun u => none) (fun u => q ≤ u.2.1 ∧ u.2.1 ≤ 700 ∧ (∀ j, u.2.2 j < 128) ∧ ∀ j, j < cap → u.2.2 j = h j) (fun u => SBW κ ba u.1 u.2.1 n u.2.2) 1 700 := by
  refine zMc_of (cc := cJ5_ensureCapacityInternal_d00df) (maxL := 3) (rt := none) [(0, .ref (ba)), (1, .int (nI q))] (by decide +kernel) rfl (Nat.le_of_ble_eq_true rfl) rfl ?_
  intro p e s m args below meth c A C hr9 hk hnm hX
  have C : zC p s m args c cJ5_ensureCapacityInternal_d00df 3 wsJ5_ensureCapacityInternal_d00df RJ5 D (zTy κ) A := C
  have hinJ4 : ∀ w ∈ wsJ40, w ∈ wsJ5_ensureCapacityInternal_d00df := by decide +kernel
  have h19 : cap < q → (if q - cap < cap + 2 then cap + 2 else q - cap) ≤ 600 - cap := by intro _; split <;> omega
  have h29 : cap < q → q - cap ≤ (if q - cap < cap + 2 then cap + 2 else q - cap) := by intro _; split <;> omega
  refine z_aload_n C dJ5_ensureCapacityInternal_d00df_0 0 rfl ?_
  refine z_get C hinJ4 0 rfl rfl 0 (by decide) (show Cond.fieldLink RJ5 15 "java/lang/AbstractStringBuilder" "value" "[B" ∈ wsJ5_ensureCapacityInternal_d00df from by decide +kernel) rfl dJ5_ensureCapacityInternal_d00df_1 ?_
  refine z_alen C 1 1 rfl rfl dJ5_ensureCapacityInternal_d00df_4 ?_
  refine z_aload_n C dJ5_ensureCapacityInternal_d00df_5 0 rfl ?_
  refine z_get C hinJ4 0 rfl rfl 1 (by decide) (show Cond.fieldLink RJ5 22 "java/lang/AbstractStringBuilder" "coder" "B" ∈ wsJ5_ensureCapacityInternal_d00df from by decide +kernel) rfl dJ5_ensureCapacityInternal_d00df_6 ?_
  refine z_shr0 C dJ5_ensureCapacityInternal_d00df_9 ?_
  refine z_istore_n C [(2, .int (nI cap)), (0, .ref (ba)), (1, .int (nI q))] dJ5_ensureCapacityInternal_d00df_10 (by decide) rfl ?_
  refine z_iload_n C dJ5_ensureCapacityInternal_d00df_11 2 rfl ?_
  refine z_iload_n C dJ5_ensureCapacityInternal_d00df_12 0 rfl ?_
  rcases Nat.lt_or_ge cap q with h9 | h9
  · refine zn_isub C dJ5_ensureCapacityInternal_d00df_13 (by omega) ?_
    refine zn_if_le C 38 dJ5_ensureCapacityInternal_d00df_14 (by decide) (by omega) (fun z => absurd z (by omega)) (fun _ => ?_)
    refine z_aload_n C dJ5_ensureCapacityInternal_d00df_17 1 rfl ?_
    refine z_aload_n C dJ5_ensureCapacityInternal_d00df_18 1 rfl ?_
    refine z_get C hinJ4 0 rfl rfl 0 (by decide) (show Cond.fieldLink RJ5 15 "java/lang/AbstractStringBuilder" "value" "[B" ∈ wsJ5_ensureCapacityInternal_d00df from by decide +kernel) rfl dJ5_ensureCapacityInternal_d00df_19 ?_
    refine z_aload_n C dJ5_ensureCapacityInternal_d00df_22 1 rfl ?_
    refine z_iload_n C dJ5_ensureCapacityInternal_d00df_23 2 rfl ?_
    refine z_callUc C (cX_ok adK adV) hX (mJ5_newCapacity_0f7a4 l D κ adK adV ba va cap n h q (by omega) (by omega) (by omega)) gJ5_ensureCapacityInternal_d00df_J5_newCapacity_0f7a4_u104J4 rfl rfl rfl rfl (show "java/lang/AbstractStringBuilder" ≠ "java/lang/invoke/MethodHandle" ∧ "java/lang/AbstractStringBuilder" ≠ "java/lang/invoke/VarHandle" ∧ (parseMethodDescriptor "(I)I").map (fun d => d.parameters.length) = some 1 from by decide +kernel) ⟨Nat.le_of_ble_eq_true rfl, Nat.le_of_ble_eq_true rfl⟩ 0 rfl rfl ([]) (fun _ => SBW κ ba va cap n h) (zp_self) (fun _ => zp_self') rfl (Nat.le_of_ble_eq_true rfl) dJ5_ensureCapacityInternal_d00df_24 ⟨Nat.zero_le _, Nat.zero_le _⟩ (fun _ _ => ?_)
    refine z_aload_n C dJ5_ensureCapacityInternal_d00df_27 1 rfl ?_
    refine z_get C hinJ4 0 rfl rfl 1 (by decide) (show Cond.fieldLink RJ5 22 "java/lang/AbstractStringBuilder" "coder" "B" ∈ wsJ5_ensureCapacityInternal_d00df from by decide +kernel) rfl dJ5_ensureCapacityInternal_d00df_28 ?_
    refine z_shl0 C dJ5_ensureCapacityInternal_d00df_31 ?_
    refine z_callSc C (cX_ok adK adV) hX (mJ7_copyOf_9075b l D κ adK adV va cap (cap + if q - cap < cap + 2 then cap + 2 else q - cap) h (by omega) (by omega) h8) gJ5_ensureCapacityInternal_d00df_J7_copyOf_9075b rfl rfl rfl (show yJ7_copyOf_9075b.cls ≠ "java/lang/invoke/MethodHandle" ∧ yJ7_copyOf_9075b.cls ≠ "java/lang/invoke/VarHandle" ∧ (parseMethodDescriptor yJ7_copyOf_9075b.desc).map (fun d => d.parameters.length) = some 2 from by decide +kernel) ⟨Nat.le_of_ble_eq_true rfl, Nat.le_of_ble_eq_true rfl⟩ ([(ba, .inr (7, [.ref va, .int (nI 0), .int (nI 0), .int (nI n)]))]) (fun u => SBW κ ba va cap n h ++ (BAW κ u (cap + if q - cap < cap + 2 then cap + 2 else q - cap) (cpN h (fun _ => 0) 0 0 cap))) (List.Perm.swap _ _ _) (fun _ => List.perm_append_comm) rfl (Nat.le_of_ble_eq_true rfl) dJ5_ensureCapacityInternal_d00df_32 ⟨Nat.le_of_ble_eq_true rfl, Nat.le_of_ble_eq_true rfl⟩ (fun va1 _ => ?_)
    refine z_put C hinJ4 tyJ4 tyJ4_ok nmJ4 0 rfl rfl 0 (by decide) (show Cond.fieldLink RJ5 15 "java/lang/AbstractStringBuilder" "value" "[B" ∈ wsJ5_ensureCapacityInternal_d00df from by decide +kernel) rfl rfl rfl (Nat.le_of_ble_eq_true rfl) dJ5_ensureCapacityInternal_d00df_35 ([(ba, .inr (7, [.ref va1, .int (nI 0), .int (nI 0), .int (nI n)]))] ++ (BAW κ va cap h ++ BAW κ va1 (cap + if q - cap < cap + 2 then cap + 2 else q - cap) (cpN h (fun _ => 0) 0 0 cap))) rfl ?_
    refine z_drop (w' := SBW κ ba va1 (cap + if q - cap < cap + 2 then cap + 2 else q - cap) n (cpN h (fun _ => 0) 0 0 cap)) (BAW κ va cap h) (List.Perm.cons _ (List.Perm.swap _ _ _)) ?_
    exact z_vret C hr9 hk ((va1, cap + if q - cap < cap + 2 then cap + 2 else q - cap, cpN h (fun _ => 0) 0 0 cap)) (rfl) (⟨by show q ≤ cap + _; split <;> omega, by show cap + _ ≤ 700; omega, cpN_8 h8 (fun _ => by decide), fun j hj => by show cpN h (fun _ => 0) 0 0 cap j = h j; simp only [cpN]; rw [if_pos (by omega), Nat.zero_add, Nat.sub_zero]⟩) (List.Perm.refl _) dJ5_ensureCapacityInternal_d00df_38 (Nat.le_refl _) (Nat.le_refl _)
  · refine z_isub C dJ5_ensureCapacityInternal_d00df_13 ?_
    refine z_if_le C 38 dJ5_ensureCapacityInternal_d00df_14 (by decide) (fun _ => ?_) (fun z => absurd (sub_le0 h9 (by omega)) z)
    exact z_vret C hr9 hk ((va, cap, h)) (rfl) (⟨h9, hcap, h8, fun _ _ => rfl⟩) (List.Perm.refl _) dJ5_ensureCapacityInternal_d00df_38 (Nat.zero_le _) (Nat.zero_le _)
set_option maxRecDepth 100000 in
set_option maxHeartbeats 4000000 in
theorem mJ0_getBytes_840e7 (l : Launch) (D : va_G) (κ : Nat → ClassId) (adK adV : Nat → Nat) (a cap n : Nat) (h : Nat → Nat) (i : Nat) (hi : i < 28) (hcap : cap ≤ 700) (hn : n + sLen.getD i 0 ≤ cap) : zMc (cX adK adV) l yJ0_getBytes_840e7 wsJ0_getBytes_840e7 { frames := 1, cells := 0, slots := 0, locals := 40 } D (zTy κ) [.ref (adK i), .ref (a), .int (nI n), .int (nI 0)] (BAW κ a cap h) (S := Unit) (fun u => none) (fun u => True) (fun u => BAW κ a cap (cpL i n h)) 0 0 := by
  refine zMc_of (cc := cJ0_getBytes_840e7) (maxL := 4) (rt := none) [(0, .ref (adK i)), (1, .ref (a)), (2, .int (nI n)), (3, .int (nI 0))] (by decide +kernel) rfl (Nat.le_of_ble_eq_true rfl) rfl ?_
  intro p e s m args below meth c A C hr9 hk hnm hX
  have C : zC p s m args c cJ0_getBytes_840e7 4 wsJ0_getBytes_840e7 RJ0 D (zTy κ) A := C
  have h9 := (sc_all i hi).2.1
  refine z_aload_n C dJ0_getBytes_840e7_0 0 rfl ?_
  refine z_callT C (wc := []) (cX_ok adK adV) hX (mJ0_coder_7d493 l D κ adK adV i hi) gJ0_getBytes_840e7_J0_coder_7d493 rfl rfl rfl (show yJ0_coder_7d493.cls = RJ0 ∧ yJ0_coder_7d493.cls ≠ "java/lang/invoke/MethodHandle" ∧ yJ0_coder_7d493.cls ≠ "java/lang/invoke/VarHandle" ∧ (parseMethodDescriptor yJ0_coder_7d493.desc).map (fun d => d.parameters.length) = some 0 from by decide +kernel) ⟨Nat.le_of_ble_eq_true rfl, Nat.le_of_ble_eq_true rfl⟩ ⟨adK, adV, i, hi, rfl, hX.2.2.2.2.1⟩ rfl (BAW κ a cap h) (fun _ => BAW κ a cap h) (List.Perm.refl _) (fun _ => List.Perm.refl _) rfl (Nat.le_of_ble_eq_true rfl) dJ0_getBytes_840e7_1 ⟨Nat.zero_le _, Nat.zero_le _⟩ (fun _ _ => ?_)
  refine z_iload_n C dJ0_getBytes_840e7_4 3 rfl ?_
  refine zn_icmp_ne C 28 dJ0_getBytes_840e7_5 (by decide) (by decide) (by decide) (fun q => absurd q (by decide)) (fun _ => ?_)
  refine z_aload_n C dJ0_getBytes_840e7_8 0 rfl ?_
  refine zx_value C hX hi (by decide +kernel) dJ0_getBytes_840e7_9 ?_
  refine z_iconst (v := nI 0) C dJ0_getBytes_840e7_12 (by decide) ?_
  refine z_aload_n C dJ0_getBytes_840e7_13 1 rfl ?_
  refine z_iload_n C dJ0_getBytes_840e7_14 2 rfl ?_
  refine z_iload_n C dJ0_getBytes_840e7_15 3 rfl ?_
  refine z_shl0 C dJ0_getBytes_840e7_16 ?_
  refine z_aload_n C dJ0_getBytes_840e7_17 0 rfl ?_
  refine zx_value C hX hi (by decide +kernel) dJ0_getBytes_840e7_18 ?_
  refine zx_alen C hX hi dJ0_getBytes_840e7_21 ?_
  refine z_copyt C hX hi (by decide +kernel) (by decide +kernel) (by decide +kernel) (by decide +kernel) 0 1 rfl rfl (by omega) (Nat.le_refl _) (by omega) ⟨Nat.le_of_ble_eq_true rfl, Nat.le_of_ble_eq_true rfl⟩ (Nat.le_of_ble_eq_true rfl) dJ0_getBytes_840e7_22 (BAW κ a cap (cpL i n h)) rfl ?_
  refine z_goto (tgt := 43) C dJ0_getBytes_840e7_25 (by decide) ?_
  exact z_vret C hr9 hk (()) (rfl) (trivial) (List.Perm.refl _) dJ0_getBytes_840e7_43 (Nat.le_refl _) (Nat.le_refl _)
set_option maxRecDepth 100000 in
set_option maxHeartbeats 4000000 in
theorem mJ5_inflateIfNeededFor_a7421 (l : Launch) (D : va_G) (κ : Nat → ClassId) (adK adV : Nat → Nat) (ba va cap n : Nat) (h : Nat → Nat) (i : Nat) (hi : i < 28)  : zMc (cX adK adV) l yJ5_inflateIfNeededFor_a7421 wsJ5_inflateIfNeededFor_a7421 { frames := 1, cells := 0, slots := 0, locals := 20 } D (zTy κ) [.ref (ba), .ref (adK i)] (SBW κ ba va cap n h) (S := Unit) (fun u => none) (fun u => True) (fun u => SBW κ ba va cap n h) 0 0 := by
  refine zMc_of (cc := cJ5_inflateIfNeededFor_a7421) (maxL := 2) (rt := none) [(0, .ref (ba)), (1, .ref (adK i))] (by decide +kernel) rfl (Nat.le_of_ble_eq_true rfl) rfl ?_
  intro p e s m args below meth c A C hr9 hk hnm hX
  have C : zC p s m args c cJ5_inflateIfNeededFor_a7421 2 wsJ5_inflateIfNeededFor_a7421 RJ5 D (zTy κ) A := C
  have hinJ4 : ∀ w ∈ wsJ40, w ∈ wsJ5_inflateIfNeededFor_a7421 := by decide +kernel
  refine zx_compact C hX (by decide +kernel) dJ5_inflateIfNeededFor_a7421_0 ?_
  refine z_if_eq C 21 dJ5_inflateIfNeededFor_a7421_3 (by decide) (fun q => absurd q (by decide)) (fun _ => ?_)
  refine z_aload_n C dJ5_inflateIfNeededFor_a7421_6 0 rfl ?_
  refine z_get C hinJ4 0 rfl rfl 1 (by decide) (show Cond.fieldLink RJ5 22 "java/lang/AbstractStringBuilder" "coder" "B" ∈ wsJ5_inflateIfNeededFor_a7421 from by decide +kernel) rfl dJ5_inflateIfNeededFor_a7421_7 ?_
  refine z_aload_n C dJ5_inflateIfNeededFor_a7421_10 1 rfl ?_
  refine z_callT C (wc := []) (cX_ok adK adV) hX (mJ0_coder_7d493 l D κ adK adV i hi) gJ5_inflateIfNeededFor_a7421_J0_coder_7d493 rfl rfl rfl (show yJ0_coder_7d493.cls = RJ0 ∧ yJ0_coder_7d493.cls ≠ "java/lang/invoke/MethodHandle" ∧ yJ0_coder_7d493.cls ≠ "java/lang/invoke/VarHandle" ∧ (parseMethodDescriptor yJ0_coder_7d493.desc).map (fun d => d.parameters.length) = some 0 from by decide +kernel) ⟨Nat.le_of_ble_eq_true rfl, Nat.le_of_ble_eq_true rfl⟩ ⟨adK, adV, i, hi, rfl, hX.2.2.2.2.1⟩ rfl (SBW κ ba va cap n h) (fun _ => SBW κ ba va cap n h) (List.Perm.refl _) (fun _ => List.Perm.refl _) rfl (Nat.le_of_ble_eq_true rfl) dJ5_inflateIfNeededFor_a7421_11 ⟨Nat.zero_le _, Nat.zero_le _⟩ (fun _ _ => ?_)
  refine zn_icmp_eq C 21 dJ5_inflateIfNeededFor_a7421_14 (by decide) (by decide) (by decide) (fun _ => ?_) (fun q => absurd q (by decide))
  exact z_vret C hr9 hk (()) (rfl) (trivial) (List.Perm.refl _) dJ5_inflateIfNeededFor_a7421_21 (Nat.le_refl _) (Nat.le_refl _)
set_option maxRecDepth 100000 in
set_option maxHeartbeats 4000000 in
theorem mJ5_putStringAt_47b60 (l : Launch) (D : va_G) (κ : Nat → ClassId) (adK adV : Nat → Nat) (ba va cap n : Nat) (h : Nat → Nat) (i : Nat) (hi : i < 28) (hcap : cap ≤ 700) (hn : n + sLen.getD i 0 ≤ cap) : zMc (cX adK adV) l yJ5_putStringAt_47b60 wsJ5_putStringAt_47b60 { frames := 2, cells := 0, slots := 0, locals := 63 } D (zTy κ) [.ref (ba), .int (nI n), .ref (adK i)] (SBW κ ba va cap n h) (S := Unit) (fun u => none) (fun u => True) (fun u => SBW κ ba va cap n (cpL i n h)) 0 0 := by
  refine zMc_of (cc := cJ5_putStringAt_47b60) (maxL := 3) (rt := none) [(0, .ref (ba)), (1, .int (nI n)), (2, .ref (adK i))] (by decide +kernel) rfl (Nat.le_of_ble_eq_true rfl) rfl ?_
  intro p e s m args below meth c A C hr9 hk hnm hX
  have C : zC p s m args c cJ5_putStringAt_47b60 3 wsJ5_putStringAt_47b60 RJ5 D (zTy κ) A := C
  have hinJ4 : ∀ w ∈ wsJ40, w ∈ wsJ5_putStringAt_47b60 := by decide +kernel
  refine z_aload_n C dJ5_putStringAt_47b60_0 0 rfl ?_
  refine z_aload_n C dJ5_putStringAt_47b60_1 2 rfl ?_
  refine z_callUc C (cX_ok adK adV) hX (mJ5_inflateIfNeededFor_a7421 l D κ adK adV ba va cap n h i hi) gJ5_putStringAt_47b60_J5_inflateIfNeededFor_a7421_u397J4 rfl rfl rfl rfl (show "java/lang/AbstractStringBuilder" ≠ "java/lang/invoke/MethodHandle" ∧ "java/lang/AbstractStringBuilder" ≠ "java/lang/invoke/VarHandle" ∧ (parseMethodDescriptor "(Ljava/lang/String;)V").map (fun d => d.parameters.length) = some 1 from by decide +kernel) ⟨Nat.le_of_ble_eq_true rfl, Nat.le_of_ble_eq_true rfl⟩ 0 rfl rfl ([]) (fun _ => SBW κ ba va cap n h) (zp_self) (fun _ => zp_self') rfl (Nat.le_of_ble_eq_true rfl) dJ5_putStringAt_47b60_2 ⟨Nat.zero_le _, Nat.zero_le _⟩ (fun _ _ => ?_)
  refine z_aload_n C dJ5_putStringAt_47b60_5 2 rfl ?_
  refine z_aload_n C dJ5_putStringAt_47b60_6 0 rfl ?_
  refine z_get C hinJ4 0 rfl rfl 0 (by decide) (show Cond.fieldLink RJ5 15 "java/lang/AbstractStringBuilder" "value" "[B" ∈ wsJ5_putStringAt_47b60 from by decide +kernel) rfl dJ5_putStringAt_47b60_7 ?_
  refine z_iload_n C dJ5_putStringAt_47b60_10 1 rfl ?_
  refine z_aload_n C dJ5_putStringAt_47b60_11 0 rfl ?_
  refine z_get C hinJ4 0 rfl rfl 1 (by decide) (show Cond.fieldLink RJ5 22 "java/lang/AbstractStringBuilder" "coder" "B" ∈ wsJ5_putStringAt_47b60 from by decide +kernel) rfl dJ5_putStringAt_47b60_12 ?_
  refine z_callT C (wc := BAW κ va cap h) (cX_ok adK adV) hX (mJ0_getBytes_840e7 l D κ adK adV va cap n h i hi (by omega) (by omega)) gJ5_putStringAt_47b60_J0_getBytes_840e7 rfl rfl rfl (show yJ0_getBytes_840e7.cls = RJ0 ∧ yJ0_getBytes_840e7.cls ≠ "java/lang/invoke/MethodHandle" ∧ yJ0_getBytes_840e7.cls ≠ "java/lang/invoke/VarHandle" ∧ (parseMethodDescriptor yJ0_getBytes_840e7.desc).map (fun d => d.parameters.length) = some 3 from by decide +kernel) ⟨Nat.le_of_ble_eq_true rfl, Nat.le_of_ble_eq_true rfl⟩ ⟨adK, adV, i, hi, rfl, hX.2.2.2.2.1⟩ rfl ([(ba, .inr (7, [.ref va, .int (nI 0), .int (nI 0), .int (nI n)]))]) (fun _ => SBW κ ba va cap n (cpL i n h)) (List.Perm.swap _ _ _) (fun _ => List.Perm.swap _ _ _) rfl (Nat.le_of_ble_eq_true rfl) dJ5_putStringAt_47b60_15 ⟨Nat.zero_le _, Nat.zero_le _⟩ (fun _ _ => ?_)
  exact z_vret C hr9 hk (()) (rfl) (trivial) (List.Perm.refl _) dJ5_putStringAt_47b60_18 (Nat.le_refl _) (Nat.le_refl _)
set_option maxRecDepth 100000 in
set_option maxHeartbeats 4000000 in
theorem mJ5_append_cf1ce (l : Launch) (D : va_G) (κ : Nat → ClassId) (adK adV : Nat → Nat) (ba va cap n : Nat) (h : Nat → Nat) (i : Nat) (hi : i < 28) (hcap : cap ≤ 700) (hnc : n ≤ cap) (hq : n + sLen.getD i 0 ≤ 300) (h8 : ∀ j, h j < 128) : zMc (cX adK adV) l yJ5_append_cf1ce wsJ5_append_cf1ce { frames := 4, cells := 1, slots := 700, locals := 96 } D (zTy κ) [.ref (ba), .ref (adK i)] (SBW κ ba va cap n h) (S := Nat × Nat × (Nat → Nat)) (fun u => some (.ref ba)) (fun u => SbP n (sLen.getD i 0) (sCh i) h u) (fun u => SBW κ ba u.1 u.2.1 (n + sLen.getD i 0) u.2.2) 1 700 := by
  refine zMc_of (cc := cJ5_append_cf1ce) (maxL := 3) (rt := (some (.object "java/lang/AbstractStringBuilder"))) [(0, .ref (ba)), (1, .ref (adK i))] (by decide +kernel) rfl (Nat.le_of_ble_eq_true rfl) rfl ?_
  intro p e s m args below meth c A C hr9 hk hnm hX
  have C : zC p s m args c cJ5_append_cf1ce 3 wsJ5_append_cf1ce RJ5 D (zTy κ) A := C
  have hinJ4 : ∀ w ∈ wsJ40, w ∈ wsJ5_append_cf1ce := by decide +kernel
  refine z_aload_n C dJ5_append_cf1ce_0 1 rfl ?_
  refine z_ifnonnull C 9 dJ5_append_cf1ce_1 (by decide) ?_
  refine z_aload_n C dJ5_append_cf1ce_9 1 rfl ?_
  refine z_callT C (wc := []) (cX_ok adK adV) hX (mJ0_length_8abf5 l D κ adK adV i hi) gJ5_append_cf1ce_J0_length_8abf5 rfl rfl rfl (show yJ0_length_8abf5.cls = RJ0 ∧ yJ0_length_8abf5.cls ≠ "java/lang/invoke/MethodHandle" ∧ yJ0_length_8abf5.cls ≠ "java/lang/invoke/VarHandle" ∧ (parseMethodDescriptor yJ0_length_8abf5.desc).map (fun d => d.parameters.length) = some 0 from by decide +kernel) ⟨Nat.le_of_ble_eq_true rfl, Nat.le_of_ble_eq_true rfl⟩ ⟨adK, adV, i, hi, rfl, hX.2.2.2.2.1⟩ rfl (SBW κ ba va cap n h) (fun _ => SBW κ ba va cap n h) (List.Perm.refl _) (fun _ => List.Perm.refl _) rfl (Nat.le_of_ble_eq_true rfl) dJ5_append_cf1ce_10 ⟨Nat.le_of_ble_eq_true rfl, Nat.le_of_ble_eq_true rfl⟩ (fun _ _ => ?_)
  refine z_istore_n C [(2, .int (nI (sLen.getD i 0))), (0, .ref (ba)), (1, .ref (adK i))] dJ5_append_cf1ce_13 (by decide) rfl ?_
  refine z_aload_n C dJ5_append_cf1ce_14 1 rfl ?_
  refine z_aload_n C dJ5_append_cf1ce_15 1 rfl ?_
  refine z_get C hinJ4 0 rfl rfl 3 (by decide) (show Cond.fieldLink RJ5 79 "java/lang/AbstractStringBuilder" "count" "I" ∈ wsJ5_append_cf1ce from by decide +kernel) rfl dJ5_append_cf1ce_16 ?_
  refine z_iload_n C dJ5_append_cf1ce_19 0 rfl ?_
  refine zn_iadd C dJ5_append_cf1ce_20 ?_
  refine z_callUc C (cX_ok adK adV) hX (mJ5_ensureCapacityInternal_d00df l D κ adK adV ba va cap n h (n + sLen.getD i 0) (by omega) (by omega) h8) gJ5_append_cf1ce_J5_ensureCapacityInternal_d00df_u100J4 rfl rfl rfl rfl (show "java/lang/AbstractStringBuilder" ≠ "java/lang/invoke/MethodHandle" ∧ "java/lang/AbstractStringBuilder" ≠ "java/lang/invoke/VarHandle" ∧ (parseMethodDescriptor "(I)V").map (fun d => d.parameters.length) = some 1 from by decide +kernel) ⟨Nat.le_of_ble_eq_true rfl, Nat.le_of_ble_eq_true rfl⟩ 0 rfl rfl ([]) (fun u => SBW κ ba u.1 u.2.1 n u.2.2) (zp_self) (fun _ => zp_self') rfl (Nat.le_of_ble_eq_true rfl) dJ5_append_cf1ce_21 ⟨Nat.le_of_ble_eq_true rfl, Nat.le_of_ble_eq_true rfl⟩ (fun u hu => ?_)
  obtain ⟨va1, cap1, h1⟩ := u
  obtain ⟨e1, e2, e3, e4⟩ := hu
  dsimp only at e1 e2 e3 e4 ⊢
  refine z_aload_n C dJ5_append_cf1ce_24 1 rfl ?_
  refine z_aload_n C dJ5_append_cf1ce_25 1 rfl ?_
  refine z_get C hinJ4 0 rfl rfl 3 (by decide) (show Cond.fieldLink RJ5 79 "java/lang/AbstractStringBuilder" "count" "I" ∈ wsJ5_append_cf1ce from by decide +kernel) rfl dJ5_append_cf1ce_26 ?_
  refine z_aload_n C dJ5_append_cf1ce_29 2 rfl ?_
  refine z_callUc C (cX_ok adK adV) hX (mJ5_putStringAt_47b60 l D κ adK adV ba va1 cap1 n h1 i hi (by omega) (by omega)) gJ5_append_cf1ce_J5_putStringAt_47b60_u208J4 rfl rfl rfl rfl (show "java/lang/AbstractStringBuilder" ≠ "java/lang/invoke/MethodHandle" ∧ "java/lang/AbstractStringBuilder" ≠ "java/lang/invoke/VarHandle" ∧ (parseMethodDescriptor "(ILjava/lang/String;)V").map (fun d => d.parameters.length) = some 2 from by decide +kernel) ⟨Nat.le_of_ble_eq_true rfl, Nat.le_of_ble_eq_true rfl⟩ 0 rfl rfl ([]) (fun _ => SBW κ ba va1 cap1 n (cpL i n h1)) (zp_self) (fun _ => zp_self') rfl (Nat.le_of_ble_eq_true rfl) dJ5_append_cf1ce_30 ⟨Nat.le_of_ble_eq_true rfl, Nat.le_of_ble_eq_true rfl⟩ (fun _ _ => ?_)
  refine z_aload_n C dJ5_append_cf1ce_33 1 rfl ?_
  refine z_dup C dJ5_append_cf1ce_34 rfl ?_
  refine z_get C hinJ4 0 rfl rfl 3 (by decide) (show Cond.fieldLink RJ5 79 "java/lang/AbstractStringBuilder" "count" "I" ∈ wsJ5_append_cf1ce from by decide +kernel) rfl dJ5_append_cf1ce_35 ?_
  refine z_iload_n C dJ5_append_cf1ce_38 0 rfl ?_
  refine zn_iadd C dJ5_append_cf1ce_39 ?_
  refine z_put C hinJ4 tyJ4 tyJ4_ok nmJ4 0 rfl rfl 3 (by decide) (show Cond.fieldLink RJ5 79 "java/lang/AbstractStringBuilder" "count" "I" ∈ wsJ5_append_cf1ce from by decide +kernel) rfl rfl rfl (Nat.le_of_ble_eq_true rfl) dJ5_append_cf1ce_40 (SBW κ ba va1 cap1 (n + (sLen.getD i 0)) (cpL i n h1)) rfl ?_
  refine z_aload_n C dJ5_append_cf1ce_43 1 rfl ?_
  exact z_aret C hr9 hk ((va1, cap1, cpL i n h1)) (rfl) (⟨e1, e2, cpL_8 hi e3, fun j hj => by show cpL i n h1 j = h j; simp only [cpL]; rw [if_neg (by omega)]; exact e4 j (by omega), fun j hj => by show cpL i n h1 (n + j) = sCh i j; simp only [cpL]; rw [if_pos (by omega), Nat.add_sub_cancel_left]⟩) (List.Perm.refl _) dJ5_append_cf1ce_44 (Nat.le_refl _) (Nat.le_refl _)
set_option maxRecDepth 100000 in
set_option maxHeartbeats 4000000 in
theorem mJ4_append_15ec4 (l : Launch) (D : va_G) (κ : Nat → ClassId) (adK adV : Nat → Nat) (ba va cap n : Nat) (h : Nat → Nat) (i : Nat) (hi : i < 28) (hcap : cap ≤ 700) (hnc : n ≤ cap) (hq : n + sLen.getD i 0 ≤ 300) (h8 : ∀ j, h j < 128) : zMc (cX adK adV) l yJ4_append_15ec4 wsJ4_append_15ec4 { frames := 5, cells := 1, slots := 700, locals := 118 } D (zTy κ) [.ref (ba), .ref (adK i)] (SBW κ ba va cap n h) (S := Nat × Nat × (Nat → Nat)) (fun u => some (.ref ba)) (fun u => SbP n (sLen.getD i 0) (sCh i) h u) (fun u => SBW κ ba u.1 u.2.1 (n + sLen.getD i 0) u.2.2) 1 700 := by
  refine zMc_of (cc := cJ4_append_15ec4) (maxL := 2) (rt := (some (.object "java/lang/StringBuilder"))) [(0, .ref (ba)), (1, .ref (adK i))] (by decide +kernel) rfl (Nat.le_of_ble_eq_true rfl) rfl ?_
  intro p e s m args below meth c A C hr9 hk hnm hX
  have C : zC p s m args c cJ4_append_15ec4 2 wsJ4_append_15ec4 RJ4 D (zTy κ) A := C
  have hinJ4 : ∀ w ∈ wsJ40, w ∈ wsJ4_append_15ec4 := by decide +kernel
  refine z_aload_n C dJ4_append_15ec4_0 0 rfl ?_
  refine z_aload_n C dJ4_append_15ec4_1 1 rfl ?_
  refine z_callWc C (cX_ok adK adV) hX (mJ5_append_cf1ce l D κ adK adV ba va cap n h i hi hcap hnc hq h8) gJ4_append_15ec4_J5_append_cf1ce_s29 rfl rfl rfl (show yJ5_append_cf1ce.name ≠ "<init>" ∧ (parseMethodDescriptor yJ5_append_cf1ce.desc).map (fun d => d.parameters.length) = some 1 from by decide +kernel) ⟨Nat.le_of_ble_eq_true rfl, Nat.le_of_ble_eq_true rfl⟩ 0 rfl rfl ([]) (fun u => SBW κ ba u.1 u.2.1 (n + sLen.getD i 0) u.2.2) (zp_self) (fun _ => zp_self') rfl (Nat.le_of_ble_eq_true rfl) dJ4_append_15ec4_2 ⟨Nat.le_of_ble_eq_true rfl, Nat.le_of_ble_eq_true rfl⟩ (fun u hu => ?_)
  refine z_pop C dJ4_append_15ec4_5 rfl ?_
  refine z_aload_n C dJ4_append_15ec4_6 0 rfl ?_
  exact z_aret C hr9 hk (u) (rfl) (hu) (List.Perm.refl _) dJ4_append_15ec4_7 (Nat.le_refl _) (Nat.le_refl _)
set_option maxRecDepth 100000 in
set_option maxHeartbeats 4000000 in
theorem mJ4_append_cf1ce (l : Launch) (D : va_G) (κ : Nat → ClassId) (adK adV : Nat → Nat) (ba va cap n : Nat) (h : Nat → Nat) (i : Nat) (hi : i < 28) (hcap : cap ≤ 700) (hnc : n ≤ cap) (hq : n + sLen.getD i 0 ≤ 300) (h8 : ∀ j, h j < 128) : zMc (cX adK adV) l yJ4_append_cf1ce wsJ4_append_cf1ce { frames := 6, cells := 1, slots := 700, locals := 139 } D (zTy κ) [.ref (ba), .ref (adK i)] (SBW κ ba va cap n h) (S := Nat × Nat × (Nat → Nat)) (fun u => some (.ref ba)) (fun u => SbP n (sLen.getD i 0) (sCh i) h u) (fun u => SBW κ ba u.1 u.2.1 (n + sLen.getD i 0) u.2.2) 1 700 := by
  refine zMc_of (cc := cJ4_append_cf1ce) (maxL := 2) (rt := (some (.object "java/lang/AbstractStringBuilder"))) [(0, .ref (ba)), (1, .ref (adK i))] (by decide +kernel) rfl (Nat.le_of_ble_eq_true rfl) rfl ?_
  intro p e s m args below meth c A C hr9 hk hnm hX
  have C : zC p s m args c cJ4_append_cf1ce 2 wsJ4_append_cf1ce RJ4 D (zTy κ) A := C
  have hinJ4 : ∀ w ∈ wsJ40, w ∈ wsJ4_append_cf1ce := by decide +kernel
  refine z_aload_n C dJ4_append_cf1ce_0 0 rfl ?_
  refine z_aload_n C dJ4_append_cf1ce_1 1 rfl ?_
  refine z_callVc C (cX_ok adK adV) hX (mJ4_append_15ec4 l D κ adK adV ba va cap n h i hi hcap hnc hq h8) gJ4_append_cf1ce_J4_append_15ec4 rfl rfl rfl (show yJ4_append_15ec4.cls = RJ4 ∧ yJ4_append_15ec4.cls ≠ "java/lang/invoke/MethodHandle" ∧ yJ4_append_15ec4.cls ≠ "java/lang/invoke/VarHandle" ∧ (parseMethodDescriptor yJ4_append_15ec4.desc).map (fun d => d.parameters.length) = some 1 from by decide +kernel) ⟨Nat.le_of_ble_eq_true rfl, Nat.le_of_ble_eq_true rfl⟩ 0 rfl rfl ([]) (fun u => SBW κ ba u.1 u.2.1 (n + sLen.getD i 0) u.2.2) (zp_self) (fun _ => zp_self') rfl (Nat.le_of_ble_eq_true rfl) dJ4_append_cf1ce_2 ⟨Nat.le_of_ble_eq_true rfl, Nat.le_of_ble_eq_true rfl⟩ (fun u hu => ?_)
  exact z_aret C hr9 hk (u) (rfl) (hu) (List.Perm.refl _) dJ4_append_cf1ce_5 (Nat.le_refl _) (Nat.le_refl _)
set_option maxRecDepth 100000 in
set_option maxHeartbeats 4000000 in
theorem mJ5_init_a7421 (l : Launch) (D : va_G) (κ : Nat → ClassId) (adK adV : Nat → Nat) (ba : Nat) (i : Nat) (hi : i < 28)  : zMc (cX adK adV) l yJ5_init_a7421 wsJ5_init_a7421 { frames := 7, cells := 2, slots := 1400, locals := 160 } D (zTy κ) [.ref (ba), .ref (adK i)] ([(ba, .inr (7, [.null, .int (nI 0), .int (nI 0), .int (nI 0)]))]) (S := Nat × Nat × (Nat → Nat)) (fun u => none) (fun u => SbP 0 (sLen.getD i 0) (sCh i) (fun _ => 0) u) (fun u => SBW κ ba u.1 u.2.1 (0 + sLen.getD i 0) u.2.2) 2 1400 := by
  refine zMc_of (cc := cJ5_init_a7421) (maxL := 5) (rt := none) [(0, .ref (ba)), (1, .ref (adK i))] (by decide +kernel) rfl (Nat.le_of_ble_eq_true rfl) rfl ?_
  intro p e s m args below meth c A C hr9 hk hnm hX
  have C : zC p s m args c cJ5_init_a7421 5 wsJ5_init_a7421 RJ5 D (zTy κ) A := C
  have hinJ4 : ∀ w ∈ wsJ40, w ∈ wsJ5_init_a7421 := by decide +kernel
  have h9 := (sc_all i hi).2.1
  refine z_aload_n C dJ5_init_a7421_0 0 rfl ?_
  refine z_oinit C (show Cond.methodLink RJ5 3 Lib.objectInit ∈ wsJ5_init_a7421 from by decide +kernel) (by decide +kernel) (by decide +kernel) ⟨Nat.le_of_ble_eq_true rfl, Nat.le_of_ble_eq_true rfl⟩ (Nat.le_of_ble_eq_true rfl) dJ5_init_a7421_1 ?_
  refine z_aload_n C dJ5_init_a7421_4 1 rfl ?_
  refine z_callT C (wc := []) (cX_ok adK adV) hX (mJ0_length_8abf5 l D κ adK adV i hi) gJ5_init_a7421_J0_length_8abf5 rfl rfl rfl (show yJ0_length_8abf5.cls = RJ0 ∧ yJ0_length_8abf5.cls ≠ "java/lang/invoke/MethodHandle" ∧ yJ0_length_8abf5.cls ≠ "java/lang/invoke/VarHandle" ∧ (parseMethodDescriptor yJ0_length_8abf5.desc).map (fun d => d.parameters.length) = some 0 from by decide +kernel) ⟨Nat.le_of_ble_eq_true rfl, Nat.le_of_ble_eq_true rfl⟩ ⟨adK, adV, i, hi, rfl, hX.2.2.2.2.1⟩ rfl ([(ba, .inr (7, [.null, .int (nI 0), .int (nI 0), .int (nI 0)]))]) (fun _ => [(ba, .inr (7, [.null, .int (nI 0), .int (nI 0), .int (nI 0)]))]) (List.Perm.refl _) (fun _ => List.Perm.refl _) rfl (Nat.le_of_ble_eq_true rfl) dJ5_init_a7421_5 ⟨Nat.le_of_ble_eq_true rfl, Nat.le_of_ble_eq_true rfl⟩ (fun _ _ => ?_)
  refine z_istore_n C [(2, .int (nI (sLen.getD i 0))), (0, .ref (ba)), (1, .ref (adK i))] dJ5_init_a7421_8 (by decide) rfl ?_
  refine z_iload_n C dJ5_init_a7421_9 0 rfl ?_
  refine z_ldc (v := nI 2147483631) C (show Cond.constant RJ5 38 (nI 2147483631) ∈ wsJ5_init_a7421 from by decide +kernel) dJ5_init_a7421_10 ?_
  refine zn_icmp_ge C 22 dJ5_init_a7421_12 (by decide) (by omega) (by omega) (fun h1 => ?_) (fun h2 => ?_)
  · exfalso; omega
  · refine z_iload_n C dJ5_init_a7421_15 0 rfl ?_
    refine z_bipush (v := nI 16) C dJ5_init_a7421_16 (by decide) ?_
    refine zn_iadd C dJ5_init_a7421_18 ?_
    refine z_goto (tgt := 24) C dJ5_init_a7421_19 (by decide) ?_
    refine z_istore_n C [(3, .int (nI ((sLen.getD i 0) + 16))), (2, .int (nI (sLen.getD i 0))), (0, .ref (ba)), (1, .ref (adK i))] dJ5_init_a7421_24 (by decide) rfl ?_
    refine z_aload_n C dJ5_init_a7421_25 3 rfl ?_
    refine z_callT C (wc := []) (cX_ok adK adV) hX (mJ0_coder_7d493 l D κ adK adV i hi) gJ5_init_a7421_J0_coder_7d493 rfl rfl rfl (show yJ0_coder_7d493.cls = RJ0 ∧ yJ0_coder_7d493.cls ≠ "java/lang/invoke/MethodHandle" ∧ yJ0_coder_7d493.cls ≠ "java/lang/invoke/VarHandle" ∧ (parseMethodDescriptor yJ0_coder_7d493.desc).map (fun d => d.parameters.length) = some 0 from by decide +kernel) ⟨Nat.le_of_ble_eq_true rfl, Nat.le_of_ble_eq_true rfl⟩ ⟨adK, adV, i, hi, rfl, hX.2.2.2.2.1⟩ rfl ([(ba, .inr (7, [.null, .int (nI 0), .int (nI 0), .int (nI 0)]))]) (fun _ => [(ba, .inr (7, [.null, .int (nI 0), .int (nI 0), .int (nI 0)]))]) (List.Perm.refl _) (fun _ => List.Perm.refl _) rfl (Nat.le_of_ble_eq_true rfl) dJ5_init_a7421_26 ⟨Nat.le_of_ble_eq_true rfl, Nat.le_of_ble_eq_true rfl⟩ (fun _ _ => ?_)
    refine z_istore C [(4, .int (nI 0)), (3, .int (nI ((sLen.getD i 0) + 16))), (2, .int (nI (sLen.getD i 0))), (0, .ref (ba)), (1, .ref (adK i))] dJ5_init_a7421_29 (by decide) rfl ?_
    refine z_aload_n C dJ5_init_a7421_31 3 rfl ?_
    refine z_iload C dJ5_init_a7421_32 0 rfl ?_
    refine z_put C hinJ4 tyJ4 tyJ4_ok nmJ4 0 rfl rfl 1 (by decide) (show Cond.fieldLink RJ5 22 "java/lang/AbstractStringBuilder" "coder" "B" ∈ wsJ5_init_a7421 from by decide +kernel) rfl rfl rfl (Nat.le_of_ble_eq_true rfl) dJ5_init_a7421_34 ([(ba, .inr (7, [.null, .int (nI 0), .int (nI 0), .int (nI 0)]))]) rfl ?_
    refine z_aload_n C dJ5_init_a7421_37 3 rfl ?_
    refine z_iload C dJ5_init_a7421_38 0 rfl ?_
    refine z_if_ne C 49 dJ5_init_a7421_40 (by decide) (fun q => absurd (by decide) q) (fun _ => ?_)
    refine z_iload_n C dJ5_init_a7421_43 1 rfl ?_
    refine z_newa C (ty := .byte) (by decide +kernel) rfl 1 rfl hu_byte (N := (sLen.getD i 0) + 16) (a0 := ((sLen.getD i 0) + 16, .inl (nF (fun _ => 0)))) (fun _ => rfl) (by omega) (by decide) (Nat.le_of_ble_eq_true rfl) (show 0 + ((sLen.getD i 0) + 16) ≤ 1400 by omega) dJ5_init_a7421_44 (fun qa => ?_)
    refine z_eq (ws' := [(ba, .inr (7, [.null, .int (nI 0), .int (nI 0), .int (nI 0)]))] ++ (BAW κ qa ((sLen.getD i 0) + 16) (fun _ => 0))) ?_ (rfl) rfl rfl rfl
    refine z_goto (tgt := 53) C dJ5_init_a7421_46 (by decide) ?_
    refine z_put C hinJ4 tyJ4 tyJ4_ok nmJ4 0 rfl rfl 0 (by decide) (show Cond.fieldLink RJ5 15 "java/lang/AbstractStringBuilder" "value" "[B" ∈ wsJ5_init_a7421 from by decide +kernel) rfl rfl rfl (Nat.le_of_ble_eq_true rfl) dJ5_init_a7421_53 ([(ba, .inr (7, [.ref (qa), .int (nI 0), .int (nI 0), .int (nI 0)]))] ++ (BAW κ qa ((sLen.getD i 0) + 16) (fun _ => 0))) rfl ?_
    refine z_aload_n C dJ5_init_a7421_56 3 rfl ?_
    refine z_aload_n C dJ5_init_a7421_57 4 rfl ?_
    refine z_eq (ws' := SBW κ ba qa (sLen.getD i 0 + 16) 0 (fun _ => 0)) ?_ rfl rfl rfl rfl
    refine z_callOc C (cX_ok adK adV) hX (mJ4_append_cf1ce l D κ adK adV ba qa (sLen.getD i 0 + 16) 0 (fun _ => 0) i hi (by omega) (by omega) (by omega) (fun _ => by decide)) gJ5_init_a7421_J4_append_cf1ce_u43J4 (show Cond.code ⟨"java/lang/AbstractStringBuilder", "append", "(Ljava/lang/String;)Ljava/lang/AbstractStringBuilder;"⟩ cJ5_append_cf1ce 3 (some (.object "java/lang/AbstractStringBuilder")) ∈ wsJ5_init_a7421 from by decide +kernel) rfl rfl rfl (show "java/lang/AbstractStringBuilder" ≠ "java/lang/invoke/MethodHandle" ∧ "java/lang/AbstractStringBuilder" ≠ "java/lang/invoke/VarHandle" ∧ (parseMethodDescriptor "(Ljava/lang/String;)Ljava/lang/AbstractStringBuilder;").map (fun d => d.parameters.length) = some 1 from by decide +kernel) ⟨Nat.le_of_ble_eq_true rfl, Nat.le_of_ble_eq_true rfl⟩ 0 rfl rfl ([]) (fun u => SBW κ ba u.1 u.2.1 (0 + sLen.getD i 0) u.2.2) (zp_self) (fun _ => zp_self') rfl (Nat.le_of_ble_eq_true rfl) dJ5_init_a7421_58 ⟨Nat.le_of_ble_eq_true rfl, (show 0 + (sLen.getD i 0 + 16) + 700 ≤ 1400 by omega)⟩ (fun u hu => ?_)
    refine z_pop C dJ5_init_a7421_61 rfl ?_
    exact z_vret C hr9 hk (u) (rfl) (hu) (List.Perm.refl _) dJ5_init_a7421_62 (Nat.le_refl _) (show 0 + (sLen.getD i 0 + 16) + 700 ≤ 1400 by omega)
set_option maxRecDepth 100000 in
set_option maxHeartbeats 4000000 in
theorem mJ4_init_a7421 (l : Launch) (D : va_G) (κ : Nat → ClassId) (adK adV : Nat → Nat) (ba : Nat) (i : Nat) (hi : i < 28)  : zMc (cX adK adV) l yJ4_init_a7421 wsJ4_init_a7421 { frames := 8, cells := 2, slots := 1400, locals := 184 } D (zTy κ) [.ref (ba), .ref (adK i)] ([(ba, .inr (7, [.null, .int (nI 0), .int (nI 0), .int (nI 0)]))]) (S := Nat × Nat × (Nat → Nat)) (fun u => none) (fun u => SbP 0 (sLen.getD i 0) (sCh i) (fun _ => 0) u) (fun u => SBW κ ba u.1 u.2.1 (0 + sLen.getD i 0) u.2.2) 2 1400 := by
  refine zMc_of (cc := cJ4_init_a7421) (maxL := 2) (rt := none) [(0, .ref (ba)), (1, .ref (adK i))] (by decide +kernel) rfl (Nat.le_of_ble_eq_true rfl) rfl ?_
  intro p e s m args below meth c A C hr9 hk hnm hX
  have C : zC p s m args c cJ4_init_a7421 2 wsJ4_init_a7421 RJ4 D (zTy κ) A := C
  have hinJ4 : ∀ w ∈ wsJ40, w ∈ wsJ4_init_a7421 := by decide +kernel
  refine z_aload_n C dJ4_init_a7421_0 0 rfl ?_
  refine z_aload_n C dJ4_init_a7421_1 1 rfl ?_
  refine z_callIc C (cX_ok adK adV) hX (mJ5_init_a7421 l D κ adK adV ba i hi) (fun _ => rfl) gJ4_init_a7421_J5_init_a7421 rfl rfl rfl (by decide +kernel) (by decide +kernel) (by decide +kernel) rfl (show yJ5_init_a7421.cls ≠ "java/lang/invoke/MethodHandle" ∧ yJ5_init_a7421.cls ≠ "java/lang/invoke/VarHandle" ∧ (parseMethodDescriptor yJ5_init_a7421.desc).map (fun d => d.parameters.length) = some 1 from by decide +kernel) ⟨Nat.le_of_ble_eq_true rfl, Nat.le_of_ble_eq_true rfl⟩ ([]) (fun u => SBW κ ba u.1 u.2.1 (0 + sLen.getD i 0) u.2.2) (zp_self) (fun _ => zp_self') rfl (Nat.le_of_ble_eq_true rfl) dJ4_init_a7421_2 ⟨Nat.le_of_ble_eq_true rfl, Nat.le_of_ble_eq_true rfl⟩ (fun u hu => ?_)
  exact z_vret C hr9 hk (u) (rfl) (hu) (List.Perm.refl _) dJ4_init_a7421_5 (Nat.le_refl _) (Nat.le_refl _)
end JS
