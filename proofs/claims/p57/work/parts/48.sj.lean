section SJ
theorem sh0 {n : Nat} (h : n < 2147483648) : nI n >>> (nI 0 &&& 31) = nI n := by
  show nI n >>> (0 : Int32) = nI n
  simp
theorem zx_fmt {p : Program} {l : Launch} {e : Env} {R : Room} {s : State} {m : MethodId} {args : Array Value} {below : List Frame} {meth : Method} {c : Code} {cc : ByteArray} {nL : Nat} {Ts : List Cond} {own : String} {D : va_G} {tys : List (ClassId × FieldType)} {A : Nat → Prop} {cells slots : Nat} {Q : State → Prop} {ws : va_W} {lv : List (Nat × Value)} {pc : Nat} {st : List Value} {adK adV : Nat → Nat} (C : zC p s m args c cc nL Ts own D tys A) (hX : cX adK adV A s s.heap) {idx : Nat} (hlk : Cond.fieldLink own idx "jdk/internal/util/Preconditions" "SIOOBE_FORMATTER" "Ljava/util/function/BiFunction;" ∈ Ts) (hdg : decode cc pc = .ok (.getstatic idx, 3)) (k1 : zW p l e R s m args below meth c nL D A cells slots Q ws lv (pc + 3) (.null :: st)) (k2 : ∀ q : Nat, zW p l e R s m args below meth c nL D A cells slots Q ws lv (pc + 3) (.ref q :: st)) : zW p l e R s m args below meth c nL D A cells slots Q ws lv pc st := fun H locs ls hP hD hS hl => by
  rcases hX.2.1.1 with h | ⟨q, h⟩
  · exact va_gets C.1 C.2.1 h hS C.2.2.2.1 (C.2.2.2.2.1 _ hlk) (fun _ h => h) hdg (k1 H locs ls hP hD hS hl)
  · exact va_gets C.1 C.2.1 h hS C.2.2.2.1 (C.2.2.2.2.1 _ hlk) (fun _ h => h) hdg (k2 q H locs ls hP hD hS hl)
set_option maxRecDepth 100000 in
set_option maxHeartbeats 4000000 in
theorem mJ0_coder_7d493 (l : Launch) (D : va_G) (κ : Nat → ClassId) (adK adV : Nat → Nat) (i : Nat) (hi : i < 28) : zMc (cX adK adV) l yJ0_coder_7d493 wsJ0_coder_7d493 { frames := 0, cells := 0, slots := 0, locals := 0 } D (zTy κ) [.ref (adK i)] [] (S := Unit) (fun _ => some (.int (nI 0))) (fun _ => True) (fun _ => []) 0 0 := by
  refine zMc_of (cc := cJ0_coder_7d493) (maxL := 1) (rt := (some .byte)) [(0, .ref (adK i))] (by decide +kernel) rfl (Nat.le_of_ble_eq_true rfl) rfl ?_
  intro p e s m args below meth c A C hr9 hk hnm hX
  have C : zC p s m args c cJ0_coder_7d493 1 wsJ0_coder_7d493 RJ0 D (zTy κ) A := C
  refine zx_compact C hX (by decide +kernel) dJ0_coder_7d493_0 ?_
  refine zn_if_eq C 13 dJ0_coder_7d493_3 (by decide) (by decide) (fun q => absurd q (by decide)) (fun _ => ?_)
  refine z_aload_n C dJ0_coder_7d493_6 0 rfl ?_
  refine zx_coder C hX hi (by decide +kernel) dJ0_coder_7d493_7 ?_
  refine z_goto (tgt := 14) C dJ0_coder_7d493_10 (by decide) ?_
  exact z_zret C hr9 hk (by decide) () rfl trivial (List.Perm.refl _) dJ0_coder_7d493_14 (Nat.le_refl _) (Nat.le_refl _)
theorem hdJ0_coder_7d493 : yJ0_coder_7d493.cls = RJ0 ∧ yJ0_coder_7d493.cls ≠ "java/lang/invoke/MethodHandle" ∧ yJ0_coder_7d493.cls ≠ "java/lang/invoke/VarHandle" ∧ (parseMethodDescriptor yJ0_coder_7d493.desc).map (fun d => d.parameters.length) = some 0 := by decide +kernel
set_option maxRecDepth 100000 in
set_option maxHeartbeats 4000000 in
theorem mJ0_isLatin1_aae02 (l : Launch) (D : va_G) (κ : Nat → ClassId) (adK adV : Nat → Nat) (i : Nat) (hi : i < 28) : zMc (cX adK adV) l yJ0_isLatin1_aae02 wsJ0_isLatin1_aae02 { frames := 0, cells := 0, slots := 0, locals := 0 } D (zTy κ) [.ref (adK i)] [] (S := Unit) (fun _ => some (.int (nI 1))) (fun _ => True) (fun _ => []) 0 0 := by
  refine zMc_of (cc := cJ0_isLatin1_aae02) (maxL := 1) (rt := (some .boolean)) [(0, .ref (adK i))] (by decide +kernel) rfl (Nat.le_of_ble_eq_true rfl) rfl ?_
  intro p e s m args below meth c A C hr9 hk hnm hX
  have C : zC p s m args c cJ0_isLatin1_aae02 1 wsJ0_isLatin1_aae02 RJ0 D (zTy κ) A := C
  refine zx_compact C hX (by decide +kernel) dJ0_isLatin1_aae02_0 ?_
  refine zn_if_eq C 17 dJ0_isLatin1_aae02_3 (by decide) (by decide) (fun q => absurd q (by decide)) (fun _ => ?_)
  refine z_aload_n C dJ0_isLatin1_aae02_6 0 rfl ?_
  refine zx_coder C hX hi (by decide +kernel) dJ0_isLatin1_aae02_7 ?_
  refine zn_if_ne C 17 dJ0_isLatin1_aae02_10 (by decide) (by decide) (fun q => absurd q (by decide)) (fun _ => ?_)
  refine z_iconst (v := nI 1) C dJ0_isLatin1_aae02_13 (by decide) ?_
  refine z_goto (tgt := 18) C dJ0_isLatin1_aae02_14 (by decide) ?_
  exact z_zret C hr9 hk (by decide) () rfl trivial (List.Perm.refl _) dJ0_isLatin1_aae02_18 (Nat.le_refl _) (Nat.le_refl _)
theorem hdJ0_isLatin1_aae02 : yJ0_isLatin1_aae02.cls = RJ0 ∧ yJ0_isLatin1_aae02.cls ≠ "java/lang/invoke/MethodHandle" ∧ yJ0_isLatin1_aae02.cls ≠ "java/lang/invoke/VarHandle" ∧ (parseMethodDescriptor yJ0_isLatin1_aae02.desc).map (fun d => d.parameters.length) = some 0 := by decide +kernel
set_option maxRecDepth 100000 in
set_option maxHeartbeats 4000000 in
theorem mJ0_length_8abf5 (l : Launch) (D : va_G) (κ : Nat → ClassId) (adK adV : Nat → Nat) (i : Nat) (hi : i < 28) : zMc (cX adK adV) l yJ0_length_8abf5 wsJ0_length_8abf5 { frames := 1, cells := 0, slots := 0, locals := 20 } D (zTy κ) [.ref (adK i)] [] (S := Unit) (fun _ => some (.int (nI (sLen.getD i 0)))) (fun _ => True) (fun _ => []) 0 0 := by
  refine zMc_of (cc := cJ0_length_8abf5) (maxL := 1) (rt := (some .int)) [(0, .ref (adK i))] (by decide +kernel) rfl (Nat.le_of_ble_eq_true rfl) rfl ?_
  intro p e s m args below meth c A C hr9 hk hnm hX
  have C : zC p s m args c cJ0_length_8abf5 1 wsJ0_length_8abf5 RJ0 D (zTy κ) A := C
  refine z_aload_n C dJ0_length_8abf5_0 0 rfl ?_
  refine zx_value C hX hi (by decide +kernel) dJ0_length_8abf5_1 ?_
  refine zx_alen C hX hi dJ0_length_8abf5_4 ?_
  refine z_aload_n C dJ0_length_8abf5_5 0 rfl ?_
  refine z_callT C (wc := []) (cX_ok adK adV) hX (mJ0_coder_7d493 l D κ adK adV i hi) gJ0_length_8abf5_J0_coder_7d493 rfl rfl rfl hdJ0_coder_7d493 ⟨Nat.le_of_ble_eq_true rfl, Nat.le_of_ble_eq_true rfl⟩ ⟨adK, adV, i, hi, rfl, hX.2.2.2.2.1⟩ rfl [] (fun _ => []) (List.Perm.refl _) (fun _ => List.Perm.refl _) rfl (Nat.le_of_ble_eq_true rfl) dJ0_length_8abf5_6 ⟨Nat.zero_le _, Nat.zero_le _⟩ (fun _ _ => ?_)
  refine z_ishr C dJ0_length_8abf5_9 ?_
  exact z_iret C hr9 hk () (by rw [sh0 (by have := sc_all i hi; omega)]) trivial (List.Perm.refl _) dJ0_length_8abf5_10 (Nat.le_refl _) (Nat.le_refl _)
theorem hdJ0_length_8abf5 : yJ0_length_8abf5.cls = RJ0 ∧ yJ0_length_8abf5.cls ≠ "java/lang/invoke/MethodHandle" ∧ yJ0_length_8abf5.cls ≠ "java/lang/invoke/VarHandle" ∧ (parseMethodDescriptor yJ0_length_8abf5.desc).map (fun d => d.parameters.length) = some 0 := by decide +kernel
set_option maxRecDepth 100000 in
set_option maxHeartbeats 4000000 in
theorem mJ3_checkIndex_8e157_n (l : Launch) (D : va_G) (κ : Nat → ClassId)  (i n q : Nat) (hi : i < n) (hn : n < 2147483648) : zM l yJ3_checkIndex_8e157 wsJ3_checkIndex_8e157 { frames := 0, cells := 0, slots := 0, locals := 0 } D (zTy κ) [.int (nI i), .int (nI n), .null] [] (S := Unit) (fun _ => some (.int (nI i))) (fun _ => True) (fun _ => []) 0 0 := by
  refine zM_of (cc := cJ3_checkIndex_8e157) (maxL := 3) (rt := (some .int)) [(0, .int (nI i)), (1, .int (nI n)), (2, .null)] (by decide +kernel) rfl (Nat.le_of_ble_eq_true rfl) rfl ?_
  intro p e s m args below meth c A C hr9 hk hnm
  have C : zC p s m args c cJ3_checkIndex_8e157 3 wsJ3_checkIndex_8e157 RJ3 D (zTy κ) A := C
  refine z_iload_n C dJ3_checkIndex_8e157_0 0 rfl ?_
  refine zn_if_lt C 9 dJ3_checkIndex_8e157_1 (by decide) (by omega) ?_
  refine z_iload_n C dJ3_checkIndex_8e157_4 0 rfl ?_
  refine z_iload_n C dJ3_checkIndex_8e157_5 1 rfl ?_
  refine zn_icmp_lt C 16 dJ3_checkIndex_8e157_6 (by decide) (by omega) (by omega) (fun _ => ?_) (fun q => absurd hi (Nat.not_lt.mpr q))
  refine z_iload_n C dJ3_checkIndex_8e157_16 0 rfl ?_
  exact z_iret C hr9 hk () rfl trivial (List.Perm.refl _) dJ3_checkIndex_8e157_17 (Nat.le_refl _) (Nat.le_refl _)
set_option maxRecDepth 100000 in
set_option maxHeartbeats 4000000 in
theorem mJ3_checkIndex_8e157_r (l : Launch) (D : va_G) (κ : Nat → ClassId)  (i n q : Nat) (hi : i < n) (hn : n < 2147483648) : zM l yJ3_checkIndex_8e157 wsJ3_checkIndex_8e157 { frames := 0, cells := 0, slots := 0, locals := 0 } D (zTy κ) [.int (nI i), .int (nI n), .ref q] [] (S := Unit) (fun _ => some (.int (nI i))) (fun _ => True) (fun _ => []) 0 0 := by
  refine zM_of (cc := cJ3_checkIndex_8e157) (maxL := 3) (rt := (some .int)) [(0, .int (nI i)), (1, .int (nI n)), (2, .ref q)] (by decide +kernel) rfl (Nat.le_of_ble_eq_true rfl) rfl ?_
  intro p e s m args below meth c A C hr9 hk hnm
  have C : zC p s m args c cJ3_checkIndex_8e157 3 wsJ3_checkIndex_8e157 RJ3 D (zTy κ) A := C
  refine z_iload_n C dJ3_checkIndex_8e157_0 0 rfl ?_
  refine zn_if_lt C 9 dJ3_checkIndex_8e157_1 (by decide) (by omega) ?_
  refine z_iload_n C dJ3_checkIndex_8e157_4 0 rfl ?_
  refine z_iload_n C dJ3_checkIndex_8e157_5 1 rfl ?_
  refine zn_icmp_lt C 16 dJ3_checkIndex_8e157_6 (by decide) (by omega) (by omega) (fun _ => ?_) (fun q => absurd hi (Nat.not_lt.mpr q))
  refine z_iload_n C dJ3_checkIndex_8e157_16 0 rfl ?_
  exact z_iret C hr9 hk () rfl trivial (List.Perm.refl _) dJ3_checkIndex_8e157_17 (Nat.le_refl _) (Nat.le_refl _)
theorem hdJ3_checkIndex_8e157 : yJ3_checkIndex_8e157.cls ≠ "java/lang/invoke/MethodHandle" ∧ yJ3_checkIndex_8e157.cls ≠ "java/lang/invoke/VarHandle" ∧ (parseMethodDescriptor yJ3_checkIndex_8e157.desc).map (fun d => d.parameters.length) = some 3 := by decide +kernel
set_option maxRecDepth 100000 in
set_option maxHeartbeats 4000000 in
theorem mJ0_checkIndex_df160 (l : Launch) (D : va_G) (κ : Nat → ClassId) (adK adV : Nat → Nat) (i n : Nat) (hi : i < n) (hn : n < 2147483648) : zMc (cX adK adV) l yJ0_checkIndex_df160 wsJ0_checkIndex_df160 { frames := 1, cells := 0, slots := 0, locals := 22 } D (zTy κ) [.int (nI i), .int (nI n)] [] (S := Unit) (fun _ => none) (fun _ => True) (fun _ => []) 0 0 := by
  refine zMc_of (cc := cJ0_checkIndex_df160) (maxL := 2) (rt := none) [(0, .int (nI i)), (1, .int (nI n))] (by decide +kernel) rfl (Nat.le_of_ble_eq_true rfl) rfl ?_
  intro p e s m args below meth c A C hr9 hk hnm hX
  have C : zC p s m args c cJ0_checkIndex_df160 2 wsJ0_checkIndex_df160 RJ0 D (zTy κ) A := C
  refine z_iload_n C dJ0_checkIndex_df160_0 0 rfl ?_
  refine z_iload_n C dJ0_checkIndex_df160_1 1 rfl ?_
  refine zx_fmt C hX (by decide +kernel) dJ0_checkIndex_df160_2 ?_ (fun q => ?_)
  · refine zs_call C (mJ3_checkIndex_8e157_n l D κ i n 0 hi hn) gJ0_checkIndex_df160_J3_checkIndex_8e157 rfl rfl rfl hdJ3_checkIndex_8e157 ⟨Nat.le_of_ble_eq_true rfl, Nat.le_of_ble_eq_true rfl⟩ rfl (Nat.le_of_ble_eq_true rfl) dJ0_checkIndex_df160_5 ⟨Nat.zero_le _, Nat.zero_le _⟩ ?_
    refine z_pop C dJ0_checkIndex_df160_8 rfl ?_
    exact z_vret C hr9 hk () rfl trivial (List.Perm.refl _) dJ0_checkIndex_df160_9 (Nat.le_refl _) (Nat.le_refl _)
  · refine zs_call C (mJ3_checkIndex_8e157_r l D κ i n q hi hn) gJ0_checkIndex_df160_J3_checkIndex_8e157 rfl rfl rfl hdJ3_checkIndex_8e157 ⟨Nat.le_of_ble_eq_true rfl, Nat.le_of_ble_eq_true rfl⟩ rfl (Nat.le_of_ble_eq_true rfl) dJ0_checkIndex_df160_5 ⟨Nat.zero_le _, Nat.zero_le _⟩ ?_
    refine z_pop C dJ0_checkIndex_df160_8 rfl ?_
    exact z_vret C hr9 hk () rfl trivial (List.Perm.refl _) dJ0_checkIndex_df160_9 (Nat.le_refl _) (Nat.le_refl _)
theorem hdJ0_checkIndex_df160 : yJ0_checkIndex_df160.cls ≠ "java/lang/invoke/MethodHandle" ∧ yJ0_checkIndex_df160.cls ≠ "java/lang/invoke/VarHandle" ∧ (parseMethodDescriptor yJ0_checkIndex_df160.desc).map (fun d => d.parameters.length) = some 2 := by decide +kernel
set_option maxRecDepth 100000 in
set_option maxHeartbeats 4000000 in
theorem mJ1_charAt_3b067 (l : Launch) (D : va_G) (κ : Nat → ClassId) (adK adV : Nat → Nat) (i : Nat) (hi : i < 28) (k : Nat) (hk0 : k < sLen.getD i 0) : zMc (cX adK adV) l yJ1_charAt_3b067 wsJ1_charAt_3b067 { frames := 2, cells := 0, slots := 0, locals := 43 } D (zTy κ) [.ref (adV i), .int (nI k)] [] (S := Unit) (fun _ => some (.int (nI (sCh i k)))) (fun _ => True) (fun _ => []) 0 0 := by
  refine zMc_of (cc := cJ1_charAt_3b067) (maxL := 2) (rt := (some .char)) [(0, .ref (adV i)), (1, .int (nI k))] (by decide +kernel) rfl (Nat.le_of_ble_eq_true rfl) rfl ?_
  intro p e s m args below meth c A C hr9 hk hnm hX
  have C : zC p s m args c cJ1_charAt_3b067 2 wsJ1_charAt_3b067 RJ1 D (zTy κ) A := C
  have h9 := sc_all i hi
  have h8 := sc_ch (sCh i k) (h9.2.2 k hk0).2
  refine z_iload_n C dJ1_charAt_3b067_0 1 rfl ?_
  refine z_aload_n C dJ1_charAt_3b067_1 0 rfl ?_
  refine zx_alen C hX hi dJ1_charAt_3b067_2 ?_
  refine z_callSc C (wc := []) (cX_ok adK adV) hX (mJ0_checkIndex_df160 l D κ adK adV k (sLen.getD i 0) hk0 (by omega)) gJ1_charAt_3b067_J0_checkIndex_df160 rfl rfl rfl hdJ0_checkIndex_df160 ⟨Nat.le_of_ble_eq_true rfl, Nat.le_of_ble_eq_true rfl⟩ [] (fun _ => []) (List.Perm.refl _) (fun _ => List.Perm.refl _) rfl (Nat.le_of_ble_eq_true rfl) dJ1_charAt_3b067_3 ⟨Nat.zero_le _, Nat.zero_le _⟩ (fun _ _ => ?_)
  refine z_aload_n C dJ1_charAt_3b067_6 0 rfl ?_
  refine z_iload_n C dJ1_charAt_3b067_7 1 rfl ?_
  refine zx_bald C hX hi hk0 dJ1_charAt_3b067_8 ?_
  refine z_sipush (v := (255 : Int32)) C dJ1_charAt_3b067_9 (by decide) ?_
  refine z_iand C dJ1_charAt_3b067_12 ?_
  refine z_i2c C dJ1_charAt_3b067_13 h8.2.1 ?_
  exact z_zret C hr9 hk h8.2.2 () rfl trivial (List.Perm.refl _) dJ1_charAt_3b067_14 (Nat.le_refl _) (Nat.le_refl _)
theorem hdJ1_charAt_3b067 : yJ1_charAt_3b067.cls ≠ "java/lang/invoke/MethodHandle" ∧ yJ1_charAt_3b067.cls ≠ "java/lang/invoke/VarHandle" ∧ (parseMethodDescriptor yJ1_charAt_3b067.desc).map (fun d => d.parameters.length) = some 2 := by decide +kernel
set_option maxRecDepth 100000 in
set_option maxHeartbeats 4000000 in
theorem mJ0_charAt_5068e (l : Launch) (D : va_G) (κ : Nat → ClassId) (adK adV : Nat → Nat) (i : Nat) (hi : i < 28) (k : Nat) (hk0 : k < sLen.getD i 0) : zMc (cX adK adV) l yJ0_charAt_5068e wsJ0_charAt_5068e { frames := 3, cells := 0, slots := 0, locals := 64 } D (zTy κ) [.ref (adK i), .int (nI k)] [] (S := Unit) (fun _ => some (.int (nI (sCh i k)))) (fun _ => True) (fun _ => []) 0 0 := by
  refine zMc_of (cc := cJ0_charAt_5068e) (maxL := 2) (rt := (some .char)) [(0, .ref (adK i)), (1, .int (nI k))] (by decide +kernel) rfl (Nat.le_of_ble_eq_true rfl) rfl ?_
  intro p e s m args below meth c A C hr9 hk hnm hX
  have C : zC p s m args c cJ0_charAt_5068e 2 wsJ0_charAt_5068e RJ0 D (zTy κ) A := C
  have h9 := sc_all i hi
  have h8 := sc_ch (sCh i k) (h9.2.2 k hk0).2
  refine z_aload_n C dJ0_charAt_5068e_0 0 rfl ?_
  refine z_callT C (wc := []) (cX_ok adK adV) hX (mJ0_isLatin1_aae02 l D κ adK adV i hi) gJ0_charAt_5068e_J0_isLatin1_aae02 rfl rfl rfl hdJ0_isLatin1_aae02 ⟨Nat.le_of_ble_eq_true rfl, Nat.le_of_ble_eq_true rfl⟩ ⟨adK, adV, i, hi, rfl, hX.2.2.2.2.1⟩ rfl [] (fun _ => []) (List.Perm.refl _) (fun _ => List.Perm.refl _) rfl (Nat.le_of_ble_eq_true rfl) dJ0_charAt_5068e_1 ⟨Nat.zero_le _, Nat.zero_le _⟩ (fun _ _ => ?_)
  refine zn_if_eq C 16 dJ0_charAt_5068e_4 (by decide) (by decide) (fun q => absurd q (by decide)) (fun _ => ?_)
  refine z_aload_n C dJ0_charAt_5068e_7 0 rfl ?_
  refine zx_value C hX hi (by decide +kernel) dJ0_charAt_5068e_8 ?_
  refine z_iload_n C dJ0_charAt_5068e_11 1 rfl ?_
  refine z_callSc C (wc := []) (cX_ok adK adV) hX (mJ1_charAt_3b067 l D κ adK adV i hi k hk0) gJ0_charAt_5068e_J1_charAt_3b067 rfl rfl rfl hdJ1_charAt_3b067 ⟨Nat.le_of_ble_eq_true rfl, Nat.le_of_ble_eq_true rfl⟩ [] (fun _ => []) (List.Perm.refl _) (fun _ => List.Perm.refl _) rfl (Nat.le_of_ble_eq_true rfl) dJ0_charAt_5068e_12 ⟨Nat.zero_le _, Nat.zero_le _⟩ (fun _ _ => ?_)
  exact z_zret C hr9 hk h8.2.2 () rfl trivial (List.Perm.refl _) dJ0_charAt_5068e_15 (Nat.le_refl _) (Nat.le_refl _)
theorem hdJ0_charAt_5068e : yJ0_charAt_5068e.cls = RJ0 ∧ yJ0_charAt_5068e.cls ≠ "java/lang/invoke/MethodHandle" ∧ yJ0_charAt_5068e.cls ≠ "java/lang/invoke/VarHandle" ∧ (parseMethodDescriptor yJ0_charAt_5068e.desc).map (fun d => d.parameters.length) = some 1 := by decide +kernel
end SJ
