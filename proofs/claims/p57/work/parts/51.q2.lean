section Q2
theorem dg_step {x : Int32} {k : Nat} (h : isDg x = true) : nI (k * 10) + x - nI 48 = nI (10 * k + dgN x) := by
  obtain ⟨d, h1, h2, rfl⟩ := isDg_of h
  rw [nI_add, pk_sub (by omega), dgN_nI (by omega)]
  congr 1
  omega
theorem num_999 {tx : Nat → Int32} {f c k : Nat} (h3 : c ≤ 3) (hd : ∀ j, j < c → isDg (tx (f + j)) = true) (hk : k ≤ c) : numV tx f k ≤ 999 := by
  have h1 := numV_le (ip := tx) (f := f) k (fun j hj => hd j (by omega))
  have h2 : 10 ^ k ≤ 10 ^ 3 := Nat.pow_le_pow_right (by decide) (by omega)
  have h4 : (10 : Nat) ^ 3 = 1000 := by decide
  omega
set_option maxRecDepth 100000 in
set_option maxHeartbeats 4000000 in
theorem mX2_put (l : Launch) (D : va_G) (κ : Nat → ClassId) (Pa Sa : Nat → Nat) (eo : Int32) (v : Nat → Nat) (tx : Nat → Int32) (x : Int32) (h1 : v 1 < 600) : pM l yX2_put wsX2_put { frames := 0, cells := 0, slots := 0, locals := 0 } D κ Pa Sa [.int (x)] eo v tx none eo (upN v 1 (v 1 + 1)) (upd tx (v 1) x.toInt8.toInt32) := by
  refine zM_of (cc := cX2_put) (maxL := 2) (rt := none) [(0, .ref (Pa 0)), (1, .int (x))] (by decide +kernel) rfl (Nat.le_of_ble_eq_true rfl) rfl ?_
  intro p e s m args below meth c A C hr9 hk hnm
  have C : zC p s m args c cX2_put 2 wsX2_put RX2 D (zTy κ) A := C
  have hin2 : ∀ w ∈ wsX20, w ∈ wsX2_put := fun w h => List.mem_cons_of_mem _ (List.mem_append_right _ h)
  have k26 : Cond.fieldLink RX2 26 "PeatRailway$Parser" "filled" "I" ∈ wsX2_put := by decide +kernel
  have k11 : Cond.fieldLink RX2 11 "PeatRailway$Parser" "text" "[B" ∈ wsX2_put := by decide +kernel
  refine z_eq (ws' := PW κ Pa Sa eo v tx ++ []) ?_ rfl rfl rfl rfl
  refine z_aload_n C dX2_put_0 0 rfl ?_
  refine zp_get_filled C hin2 (x := v 1) k26 dX2_put_1 rfl ?_
  refine z_sipush (v := nI 600) C dX2_put_4 (by decide) ?_
  refine zn_icmp_ge C 31 dX2_put_7 (by decide) (by omega) (by omega) (fun h1 => ?_) (fun h2 => ?_)
  · exfalso; omega
  · refine z_aload_n C dX2_put_10 0 rfl ?_
    refine zp_get_text C hin2 k11 dX2_put_11 ?_
    refine z_aload_n C dX2_put_14 0 rfl ?_
    refine zp_get_filled C hin2 (x := v 1) k26 dX2_put_15 rfl ?_
    refine z_iload_n C dX2_put_18 1 rfl ?_
    refine z_i2b C dX2_put_19 rfl ?_
    refine zp_ast C (by omega) dX2_put_20 ?_
    refine z_aload_n C dX2_put_21 0 rfl ?_
    refine z_dup C dX2_put_22 rfl ?_
    refine zp_get_filled C hin2 (x := v 1) k26 dX2_put_23 rfl ?_
    refine z_iconst (v := nI 1) C dX2_put_26 (by decide) ?_
    refine zn_iadd C dX2_put_27 ?_
    refine zp_put_filled C hin2 k26 dX2_put_28 ?_
    exact z_vret C hr9 hk (()) (rfl) (trivial) (List.Perm.of_eq rfl) dX2_put_31 (Nat.le_refl _) (Nat.le_refl _)
theorem hdX2_put : yX2_put.cls = RX2 ∧ yX2_put.cls ≠ "java/lang/invoke/MethodHandle" ∧ yX2_put.cls ≠ "java/lang/invoke/VarHandle" ∧ (parseMethodDescriptor yX2_put.desc).map (fun d => d.parameters.length) = some 1 := by decide +kernel
set_option maxRecDepth 100000 in
set_option maxHeartbeats 4000000 in
theorem mX2_takeNumber_ok (l : Launch) (D : va_G) (κ : Nat → ClassId) (Pa Sa : Nat → Nat) (eo : Int32) (v : Nat → Nat) (tx : Nat → Int32) (lo : Nat) (hi : Int32) (hX : Nat) (h5 : v 5 ≤ 600) (h78 : v 7 ≤ v 8) (h8 : v 8 ≤ v 5) (h6 : v 6 = 2) (hl : v 8 - v 7 ≤ 3) (hd : ∀ j, j < v 8 - v 7 → isDg (tx (v 7 + j)) = true) (hlo : lo < 1000) (hin : lo ≤ numV tx (v 7) (v 8 - v 7) ∧ numV tx (v 7) (v 8 - v 7) < hX) (hh : ∀ x, x ≤ 999 → inI (nI x) (nI lo) hi = (decide (lo ≤ x) && decide (x < hX))) : pM l yX2_takeNumber wsX2_takeNumber { frames := 2, cells := 0, slots := 0, locals := 46 } D κ Pa Sa [.int (nI lo), .int (hi)] eo v tx (some (.int (nI (numV tx (v 7) (v 8 - v 7))))) eo (rdV tx v) tx := by
  refine zM_of (cc := cX2_takeNumber) (maxL := 5) (rt := (some .int)) [(0, .ref (Pa 0)), (1, .int (nI lo)), (2, .int (hi))] (by decide +kernel) rfl (Nat.le_of_ble_eq_true rfl) rfl ?_
  intro p e s m args below meth c A C hr9 hk hnm
  have C : zC p s m args c cX2_takeNumber 5 wsX2_takeNumber RX2 D (zTy κ) A := C
  have hin2 : ∀ w ∈ wsX20, w ∈ wsX2_takeNumber := fun w h => List.mem_cons_of_mem _ (List.mem_append_right _ h)
  have k58 : Cond.fieldLink RX2 58 "PeatRailway$Parser" "token" "I" ∈ wsX2_takeNumber := by decide +kernel
  have k64 : Cond.fieldLink RX2 64 "PeatRailway$Parser" "tokenEnd" "I" ∈ wsX2_takeNumber := by decide +kernel
  have k61 : Cond.fieldLink RX2 61 "PeatRailway$Parser" "tokenStart" "I" ∈ wsX2_takeNumber := by decide +kernel
  have k11 : Cond.fieldLink RX2 11 "PeatRailway$Parser" "text" "[B" ∈ wsX2_takeNumber := by decide +kernel
  refine z_eq (ws' := PW κ Pa Sa eo v tx ++ []) ?_ rfl rfl rfl rfl
  refine z_aload_n C dX2_takeNumber_0 0 rfl ?_
  refine zp_get_token C hin2 (x := v 6) k58 dX2_takeNumber_1 rfl ?_
  refine z_iconst (v := nI 2) C dX2_takeNumber_4 (by decide) ?_
  refine zn_icmp_ne C 21 dX2_takeNumber_5 (by decide) (by omega) (by omega) (fun h1 => ?_) (fun h2 => ?_)
  · exfalso; omega
  · refine z_aload_n C dX2_takeNumber_8 0 rfl ?_
    refine zp_get_tokenEnd C hin2 (x := v 8) k64 dX2_takeNumber_9 rfl ?_
    refine z_aload_n C dX2_takeNumber_12 0 rfl ?_
    refine zp_get_tokenStart C hin2 (x := v 7) k61 dX2_takeNumber_13 rfl ?_
    refine zn_isub C dX2_takeNumber_16 (by omega) ?_
    refine z_iconst (v := nI 3) C dX2_takeNumber_17 (by decide) ?_
    refine zn_icmp_le C 33 dX2_takeNumber_18 (by decide) (by omega) (by omega) (fun h3 => ?_) (fun h4 => ?_)
    · refine z_iconst (v := nI 0) C dX2_takeNumber_33 (by decide) ?_
      refine z_istore_n C [(3, .int (nI 0)), (0, .ref (Pa 0)), (1, .int (nI lo)), (2, .int (hi))] dX2_takeNumber_34 (by decide) rfl ?_
      refine z_aload_n C dX2_takeNumber_35 1 rfl ?_
      refine zp_get_tokenStart C hin2 (x := v 7) k61 dX2_takeNumber_36 rfl ?_
      refine z_istore C [(4, .int (nI (v 7))), (3, .int (nI 0)), (0, .ref (Pa 0)), (1, .int (nI lo)), (2, .int (hi))] dX2_takeNumber_39 (by decide) rfl ?_
      refine z_lv [2, 3, 4, 1, 0] rfl ?_
      refine z_loop (σ := Nat) (fun k => PW κ Pa Sa eo v tx ++ []) (fun k => [(0, .ref (Pa 0)), (1, .int (nI lo)), (2, .int (hi)), (3, .int (nI (numV tx (v 7) k))), (4, .int (nI (v 7 + k)))]) (fun k => k ≤ v 8 - v 7) (fun k => v 8 - v 7 - k) (0) (Nat.zero_le _) rfl rfl ?_
      rintro k hI41 ih41
      have hk9 := num_999 hl hd hI41
      refine z_iload C dX2_takeNumber_41 4 rfl ?_
      refine z_aload_n C dX2_takeNumber_43 0 rfl ?_
      refine zp_get_tokenEnd C hin2 (x := v 8) k64 dX2_takeNumber_44 rfl ?_
      refine zn_icmp_ge C 72 dX2_takeNumber_47 (by decide) (by omega) (by omega) (fun h5 => ?_) (fun h6 => ?_)
      · have hk8 : k = v 8 - v 7 := by omega
        refine z_iload_n C dX2_takeNumber_72 3 rfl ?_
        refine z_iload_n C dX2_takeNumber_73 1 rfl ?_
        refine zn_icmp_lt C 82 dX2_takeNumber_74 (by decide) (by omega) (by omega) (fun h7 => ?_) (fun h8 => ?_)
        · exfalso
          rw [← hk8] at hin
          omega
        · refine z_iload_n C dX2_takeNumber_77 3 rfl ?_
          refine z_iload_n C dX2_takeNumber_78 2 rfl ?_
          refine z_icmp_le C 94 dX2_takeNumber_79 (by decide) (fun h9 => ?_) (fun h10 => ?_)
          · refine z_aload_n C dX2_takeNumber_94 0 rfl ?_
            refine zp_call C (mX2_readToken l D κ Pa Sa _ _ _ (by omega) (by omega) (by omega) (by omega)) gX2_takeNumber_X2_readToken rfl rfl rfl hdX2_readToken ⟨Nat.le_of_ble_eq_true rfl, Nat.le_of_ble_eq_true rfl⟩ rfl (Nat.le_of_ble_eq_true rfl) dX2_takeNumber_95 ⟨Nat.zero_le _, Nat.zero_le _⟩ ?_
            refine z_iload_n C dX2_takeNumber_98 3 rfl ?_
            exact z_iret C hr9 hk (()) (congrArg (fun n => some (Value.int (nI n))) (show numV tx (v 7) (v 8 - v 7) = numV tx (v 7) k from by rw [hk8])) (trivial) (List.Perm.of_eq rfl) dX2_takeNumber_99 (Nat.le_refl _) (Nat.le_refl _)
          · exfalso
            rw [← hk8] at hin
            have hq := hh (numV tx (v 7) k) hk9
            rw [decide_eq_true hin.1, decide_eq_true hin.2, inI_hi _ (Int32.not_le.mp h10)] at hq
            cases hq
      · refine z_iload_n C dX2_takeNumber_50 3 rfl ?_
        refine z_bipush (v := nI 10) C dX2_takeNumber_51 (by decide) ?_
        refine zn_imul C dX2_takeNumber_53 ?_
        refine z_aload_n C dX2_takeNumber_54 0 rfl ?_
        refine zp_get_text C hin2 k11 dX2_takeNumber_55 ?_
        refine z_iload C dX2_takeNumber_58 4 rfl ?_
        refine zp_ald C (by omega) dX2_takeNumber_60 ?_
        refine z_iadd C dX2_takeNumber_61 ?_
        refine z_bipush (v := nI 48) C dX2_takeNumber_62 (by decide) ?_
        refine z_isub C dX2_takeNumber_64 ?_
        rw [dg_step (hd k (by omega))]
        refine z_istore_n C [(3, .int (nI (10 * numV tx (v 7) k + dgN (tx (v 7 + k))))), (0, .ref (Pa 0)), (1, .int (nI lo)), (2, .int (hi)), (4, .int (nI (v 7 + k)))] dX2_takeNumber_65 (by decide) rfl ?_
        refine zn_iinc (n := 1) C [(4, .int (nI ((v 7 + k) + 1))), (3, .int (nI (10 * numV tx (v 7) k + dgN (tx (v 7 + k))))), (0, .ref (Pa 0)), (1, .int (nI lo)), (2, .int (hi))] dX2_takeNumber_66 4 rfl (by decide) rfl ?_
        refine z_goto (tgt := 41) C dX2_takeNumber_69 (by decide) ?_
        refine z_lv [2, 3, 4, 1, 0] rfl ?_
        exact ih41 (k + 1) (by omega) (by omega)
    · exfalso; omega
theorem hdX2_takeNumber : yX2_takeNumber.cls = RX2 ∧ yX2_takeNumber.cls ≠ "java/lang/invoke/MethodHandle" ∧ yX2_takeNumber.cls ≠ "java/lang/invoke/VarHandle" ∧ (parseMethodDescriptor yX2_takeNumber.desc).map (fun d => d.parameters.length) = some 2 := by decide +kernel
set_option maxRecDepth 100000 in
set_option maxHeartbeats 4000000 in
theorem mX2_takeNumber_e2 (l : Launch) (D : va_G) (κ : Nat → ClassId) (Pa Sa : Nat → Nat) (eo : Int32) (v : Nat → Nat) (tx : Nat → Int32) (lo : Nat) (hi : Int32) (hX : Nat) (h5 : v 5 ≤ 600) (h78 : v 7 ≤ v 8) (h8 : v 8 ≤ v 5) (h6 : v 6 = 2) (hl : v 8 - v 7 ≤ 3) (hd : ∀ j, j < v 8 - v 7 → isDg (tx (v 7 + j)) = true) (hlo : lo < 1000) (hout : ¬ (lo ≤ numV tx (v 7) (v 8 - v 7) ∧ numV tx (v 7) (v 8 - v 7) < hX)) (hh : ∀ x, x ≤ 999 → inI (nI x) (nI lo) hi = (decide (lo ≤ x) && decide (x < hX))) : pM l yX2_takeNumber wsX2_takeNumber { frames := 2, cells := 0, slots := 0, locals := 46 } D κ Pa Sa [.int (nI lo), .int (hi)] eo v tx (some (.int (-1))) (nI (v 7)) (upN v 2 2) tx := by
  refine zM_of (cc := cX2_takeNumber) (maxL := 5) (rt := (some .int)) [(0, .ref (Pa 0)), (1, .int (nI lo)), (2, .int (hi))] (by decide +kernel) rfl (Nat.le_of_ble_eq_true rfl) rfl ?_
  intro p e s m args below meth c A C hr9 hk hnm
  have C : zC p s m args c cX2_takeNumber 5 wsX2_takeNumber RX2 D (zTy κ) A := C
  have hin2 : ∀ w ∈ wsX20, w ∈ wsX2_takeNumber := fun w h => List.mem_cons_of_mem _ (List.mem_append_right _ h)
  have k58 : Cond.fieldLink RX2 58 "PeatRailway$Parser" "token" "I" ∈ wsX2_takeNumber := by decide +kernel
  have k64 : Cond.fieldLink RX2 64 "PeatRailway$Parser" "tokenEnd" "I" ∈ wsX2_takeNumber := by decide +kernel
  have k61 : Cond.fieldLink RX2 61 "PeatRailway$Parser" "tokenStart" "I" ∈ wsX2_takeNumber := by decide +kernel
  have k11 : Cond.fieldLink RX2 11 "PeatRailway$Parser" "text" "[B" ∈ wsX2_takeNumber := by decide +kernel
  refine z_eq (ws' := PW κ Pa Sa eo v tx ++ []) ?_ rfl rfl rfl rfl
  refine z_aload_n C dX2_takeNumber_0 0 rfl ?_
  refine zp_get_token C hin2 (x := v 6) k58 dX2_takeNumber_1 rfl ?_
  refine z_iconst (v := nI 2) C dX2_takeNumber_4 (by decide) ?_
  refine zn_icmp_ne C 21 dX2_takeNumber_5 (by decide) (by omega) (by omega) (fun h1 => ?_) (fun h2 => ?_)
  · exfalso; omega
  · refine z_aload_n C dX2_takeNumber_8 0 rfl ?_
    refine zp_get_tokenEnd C hin2 (x := v 8) k64 dX2_takeNumber_9 rfl ?_
    refine z_aload_n C dX2_takeNumber_12 0 rfl ?_
    refine zp_get_tokenStart C hin2 (x := v 7) k61 dX2_takeNumber_13 rfl ?_
    refine zn_isub C dX2_takeNumber_16 (by omega) ?_
    refine z_iconst (v := nI 3) C dX2_takeNumber_17 (by decide) ?_
    refine zn_icmp_le C 33 dX2_takeNumber_18 (by decide) (by omega) (by omega) (fun h3 => ?_) (fun h4 => ?_)
    · refine z_iconst (v := nI 0) C dX2_takeNumber_33 (by decide) ?_
      refine z_istore_n C [(3, .int (nI 0)), (0, .ref (Pa 0)), (1, .int (nI lo)), (2, .int (hi))] dX2_takeNumber_34 (by decide) rfl ?_
      refine z_aload_n C dX2_takeNumber_35 1 rfl ?_
      refine zp_get_tokenStart C hin2 (x := v 7) k61 dX2_takeNumber_36 rfl ?_
      refine z_istore C [(4, .int (nI (v 7))), (3, .int (nI 0)), (0, .ref (Pa 0)), (1, .int (nI lo)), (2, .int (hi))] dX2_takeNumber_39 (by decide) rfl ?_
      refine z_lv [2, 3, 4, 1, 0] rfl ?_
      refine z_loop (σ := Nat) (fun k => PW κ Pa Sa eo v tx ++ []) (fun k => [(0, .ref (Pa 0)), (1, .int (nI lo)), (2, .int (hi)), (3, .int (nI (numV tx (v 7) k))), (4, .int (nI (v 7 + k)))]) (fun k => k ≤ v 8 - v 7) (fun k => v 8 - v 7 - k) (0) (Nat.zero_le _) rfl rfl ?_
      rintro k hI41 ih41
      have hk9 := num_999 hl hd hI41
      refine z_iload C dX2_takeNumber_41 4 rfl ?_
      refine z_aload_n C dX2_takeNumber_43 0 rfl ?_
      refine zp_get_tokenEnd C hin2 (x := v 8) k64 dX2_takeNumber_44 rfl ?_
      refine zn_icmp_ge C 72 dX2_takeNumber_47 (by decide) (by omega) (by omega) (fun h5 => ?_) (fun h6 => ?_)
      · have hk8 : k = v 8 - v 7 := by omega
        refine z_iload_n C dX2_takeNumber_72 3 rfl ?_
        refine z_iload_n C dX2_takeNumber_73 1 rfl ?_
        refine zn_icmp_lt C 82 dX2_takeNumber_74 (by decide) (by omega) (by omega) (fun h7 => ?_) (fun h8 => ?_)
        · refine z_aload_n C dX2_takeNumber_82 0 rfl ?_
          refine z_iconst (v := nI 2) C dX2_takeNumber_83 (by decide) ?_
          refine z_aload_n C dX2_takeNumber_84 0 rfl ?_
          refine zp_get_tokenStart C hin2 (x := v 7) k61 dX2_takeNumber_85 rfl ?_
          refine zp_call C (mX2_fail l D κ Pa Sa _ _ _ 2 (v 7) ) gX2_takeNumber_X2_fail rfl rfl rfl hdX2_fail ⟨Nat.le_of_ble_eq_true rfl, Nat.le_of_ble_eq_true rfl⟩ rfl (Nat.le_of_ble_eq_true rfl) dX2_takeNumber_88 ⟨Nat.zero_le _, Nat.zero_le _⟩ ?_
          refine z_pop C dX2_takeNumber_91 rfl ?_
          refine z_iconst (v := (-1)) C dX2_takeNumber_92 (by decide) ?_
          exact z_iret C hr9 hk (()) (rfl) (trivial) (List.Perm.of_eq rfl) dX2_takeNumber_93 (Nat.le_refl _) (Nat.le_refl _)
        · refine z_iload_n C dX2_takeNumber_77 3 rfl ?_
          refine z_iload_n C dX2_takeNumber_78 2 rfl ?_
          refine z_icmp_le C 94 dX2_takeNumber_79 (by decide) (fun h9 => ?_) (fun h10 => ?_)
          · exfalso
            rw [← hk8] at hout
            have hq := hh (numV tx (v 7) k) hk9
            rw [inI_n _ (fun z => absurd ((zq_lt (by omega) (by omega)).mp z) (by omega)) (Int32.not_lt.mpr h9)] at hq
            have hq2 := Bool.and_eq_true_iff.mp hq.symm
            exact hout ⟨of_decide_eq_true hq2.1, of_decide_eq_true hq2.2⟩
          · refine z_aload_n C dX2_takeNumber_82 0 rfl ?_
            refine z_iconst (v := nI 2) C dX2_takeNumber_83 (by decide) ?_
            refine z_aload_n C dX2_takeNumber_84 0 rfl ?_
            refine zp_get_tokenStart C hin2 (x := v 7) k61 dX2_takeNumber_85 rfl ?_
            refine zp_call C (mX2_fail l D κ Pa Sa _ _ _ 2 (v 7) ) gX2_takeNumber_X2_fail rfl rfl rfl hdX2_fail ⟨Nat.le_of_ble_eq_true rfl, Nat.le_of_ble_eq_true rfl⟩ rfl (Nat.le_of_ble_eq_true rfl) dX2_takeNumber_88 ⟨Nat.zero_le _, Nat.zero_le _⟩ ?_
            refine z_pop C dX2_takeNumber_91 rfl ?_
            refine z_iconst (v := (-1)) C dX2_takeNumber_92 (by decide) ?_
            exact z_iret C hr9 hk (()) (rfl) (trivial) (List.Perm.of_eq rfl) dX2_takeNumber_93 (Nat.le_refl _) (Nat.le_refl _)
      · refine z_iload_n C dX2_takeNumber_50 3 rfl ?_
        refine z_bipush (v := nI 10) C dX2_takeNumber_51 (by decide) ?_
        refine zn_imul C dX2_takeNumber_53 ?_
        refine z_aload_n C dX2_takeNumber_54 0 rfl ?_
        refine zp_get_text C hin2 k11 dX2_takeNumber_55 ?_
        refine z_iload C dX2_takeNumber_58 4 rfl ?_
        refine zp_ald C (by omega) dX2_takeNumber_60 ?_
        refine z_iadd C dX2_takeNumber_61 ?_
        refine z_bipush (v := nI 48) C dX2_takeNumber_62 (by decide) ?_
        refine z_isub C dX2_takeNumber_64 ?_
        rw [dg_step (hd k (by omega))]
        refine z_istore_n C [(3, .int (nI (10 * numV tx (v 7) k + dgN (tx (v 7 + k))))), (0, .ref (Pa 0)), (1, .int (nI lo)), (2, .int (hi)), (4, .int (nI (v 7 + k)))] dX2_takeNumber_65 (by decide) rfl ?_
        refine zn_iinc (n := 1) C [(4, .int (nI ((v 7 + k) + 1))), (3, .int (nI (10 * numV tx (v 7) k + dgN (tx (v 7 + k))))), (0, .ref (Pa 0)), (1, .int (nI lo)), (2, .int (hi))] dX2_takeNumber_66 4 rfl (by decide) rfl ?_
        refine z_goto (tgt := 41) C dX2_takeNumber_69 (by decide) ?_
        refine z_lv [2, 3, 4, 1, 0] rfl ?_
        exact ih41 (k + 1) (by omega) (by omega)
    · exfalso; omega
set_option maxRecDepth 100000 in
set_option maxHeartbeats 4000000 in
theorem mX2_takeNumber_e1 (l : Launch) (D : va_G) (κ : Nat → ClassId) (Pa Sa : Nat → Nat) (eo : Int32) (v : Nat → Nat) (tx : Nat → Int32) (lo : Nat) (hi : Int32) (hX : Nat) (h5 : v 5 ≤ 600) (h78 : v 7 ≤ v 8) (h8 : v 8 ≤ v 5) (h9 : v 6 ≤ 4) (h1 : v 6 ≠ 2 ∨ 3 < v 8 - v 7) : pM l yX2_takeNumber wsX2_takeNumber { frames := 2, cells := 0, slots := 0, locals := 46 } D κ Pa Sa [.int (nI lo), .int (hi)] eo v tx (some (.int (-1))) (nI (v 7)) (upN v 2 1) tx := by
  refine zM_of (cc := cX2_takeNumber) (maxL := 5) (rt := (some .int)) [(0, .ref (Pa 0)), (1, .int (nI lo)), (2, .int (hi))] (by decide +kernel) rfl (Nat.le_of_ble_eq_true rfl) rfl ?_
  intro p e s m args below meth c A C hr9 hk hnm
  have C : zC p s m args c cX2_takeNumber 5 wsX2_takeNumber RX2 D (zTy κ) A := C
  have hin2 : ∀ w ∈ wsX20, w ∈ wsX2_takeNumber := fun w h => List.mem_cons_of_mem _ (List.mem_append_right _ h)
  have k58 : Cond.fieldLink RX2 58 "PeatRailway$Parser" "token" "I" ∈ wsX2_takeNumber := by decide +kernel
  have k64 : Cond.fieldLink RX2 64 "PeatRailway$Parser" "tokenEnd" "I" ∈ wsX2_takeNumber := by decide +kernel
  have k61 : Cond.fieldLink RX2 61 "PeatRailway$Parser" "tokenStart" "I" ∈ wsX2_takeNumber := by decide +kernel
  have k11 : Cond.fieldLink RX2 11 "PeatRailway$Parser" "text" "[B" ∈ wsX2_takeNumber := by decide +kernel
  refine z_eq (ws' := PW κ Pa Sa eo v tx ++ []) ?_ rfl rfl rfl rfl
  refine z_aload_n C dX2_takeNumber_0 0 rfl ?_
  refine zp_get_token C hin2 (x := v 6) k58 dX2_takeNumber_1 rfl ?_
  refine z_iconst (v := nI 2) C dX2_takeNumber_4 (by decide) ?_
  refine zn_icmp_ne C 21 dX2_takeNumber_5 (by decide) (by omega) (by omega) (fun h1 => ?_) (fun h2 => ?_)
  · refine z_aload_n C dX2_takeNumber_21 0 rfl ?_
    refine z_iconst (v := nI 1) C dX2_takeNumber_22 (by decide) ?_
    refine z_aload_n C dX2_takeNumber_23 0 rfl ?_
    refine zp_get_tokenStart C hin2 (x := v 7) k61 dX2_takeNumber_24 rfl ?_
    refine zp_call C (mX2_fail l D κ Pa Sa _ _ _ 1 (v 7) ) gX2_takeNumber_X2_fail rfl rfl rfl hdX2_fail ⟨Nat.le_of_ble_eq_true rfl, Nat.le_of_ble_eq_true rfl⟩ rfl (Nat.le_of_ble_eq_true rfl) dX2_takeNumber_27 ⟨Nat.zero_le _, Nat.zero_le _⟩ ?_
    refine z_pop C dX2_takeNumber_30 rfl ?_
    refine z_iconst (v := (-1)) C dX2_takeNumber_31 (by decide) ?_
    exact z_iret C hr9 hk (()) (rfl) (trivial) (List.Perm.of_eq rfl) dX2_takeNumber_32 (Nat.le_refl _) (Nat.le_refl _)
  · refine z_aload_n C dX2_takeNumber_8 0 rfl ?_
    refine zp_get_tokenEnd C hin2 (x := v 8) k64 dX2_takeNumber_9 rfl ?_
    refine z_aload_n C dX2_takeNumber_12 0 rfl ?_
    refine zp_get_tokenStart C hin2 (x := v 7) k61 dX2_takeNumber_13 rfl ?_
    refine zn_isub C dX2_takeNumber_16 (by omega) ?_
    refine z_iconst (v := nI 3) C dX2_takeNumber_17 (by decide) ?_
    refine zn_icmp_le C 33 dX2_takeNumber_18 (by decide) (by omega) (by omega) (fun h3 => ?_) (fun h4 => ?_)
    · exfalso; omega
    · refine z_aload_n C dX2_takeNumber_21 0 rfl ?_
      refine z_iconst (v := nI 1) C dX2_takeNumber_22 (by decide) ?_
      refine z_aload_n C dX2_takeNumber_23 0 rfl ?_
      refine zp_get_tokenStart C hin2 (x := v 7) k61 dX2_takeNumber_24 rfl ?_
      refine zp_call C (mX2_fail l D κ Pa Sa _ _ _ 1 (v 7) ) gX2_takeNumber_X2_fail rfl rfl rfl hdX2_fail ⟨Nat.le_of_ble_eq_true rfl, Nat.le_of_ble_eq_true rfl⟩ rfl (Nat.le_of_ble_eq_true rfl) dX2_takeNumber_27 ⟨Nat.zero_le _, Nat.zero_le _⟩ ?_
      refine z_pop C dX2_takeNumber_30 rfl ?_
      refine z_iconst (v := (-1)) C dX2_takeNumber_31 (by decide) ?_
      exact z_iret C hr9 hk (()) (rfl) (trivial) (List.Perm.of_eq rfl) dX2_takeNumber_32 (Nat.le_refl _) (Nat.le_refl _)
end Q2
