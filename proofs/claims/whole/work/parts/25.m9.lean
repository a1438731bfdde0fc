section M9
set_option maxRecDepth 100000 in
set_option maxHeartbeats 4000000 in
theorem mX6_writeRing (l : Launch) (D : va_G) (κ : Nat → ClassId) (Ad : Nat → Nat) (eo : Int32) (ip : Nat → Int32) (v nw aw od sv ot : Nat → Nat) (M : Nat)  (hB : Bd M nw) (hlo : ∀ b, b < nw 1 → nw (5 + 6 * b + 5) ≤ 1) : mM l yX6_writeRing wsX6_writeRing { frames := 2, cells := 0, slots := 0, locals := 42 } D κ Ad [] eo ip v nw aw od sv ot (some (.int (nI ((wRing nw (ot, 0) (nw 1)).2)))) eo ip (upN (upN v 11 ((wRing nw (ot, 0) (nw 1)).2)) 1 0) nw aw od sv ((wRing nw (ot, 0) (nw 1)).1) := by
  refine zM_of (cc := cX6_writeRing) (maxL := 4) (rt := (some .int)) [(0, .ref (Ad 0))] (by decide +kernel) rfl (Nat.le_of_ble_eq_true rfl) rfl ?_
  intro p e s m args below meth c A C hr hk hnm
  have C : zC p s m args c cX6_writeRing 4 wsX6_writeRing RX6 D (zTy κ) A := C
  have hin : ∀ w ∈ wsX60, w ∈ wsX6_writeRing := fun w h => List.mem_cons_of_mem _ (List.mem_append_right _ h)
  have k239 : Cond.fieldLink RX6 239 "PeatRailwayModel" "outputMany" "I" ∈ wsX6_writeRing := by decide +kernel
  have k13 : Cond.fieldLink RX6 13 "PeatRailwayModel" "now" "[I" ∈ wsX6_writeRing := by decide +kernel
  obtain ⟨hM1, hM2, ht0, hnb, hnt, hj, hp⟩ := id hB
  refine z_aload_n C dX6_writeRing_0 0 rfl ?_
  refine z_iconst (v := nI 0) C dX6_writeRing_1 (by decide) ?_
  refine zm_put_outputMany C hin k239 dX6_writeRing_2 ?_
  refine z_iconst (v := nI 0) C dX6_writeRing_5 (by decide) ?_
  refine z_istore_n C [(1, .int (nI 0)), (0, .ref (Ad 0))] dX6_writeRing_6 (by decide) rfl ?_
  refine z_lv [1, 0] rfl ?_
  refine z_loop (σ := Nat × ((Nat → Nat) × Nat)) (fun x => MW κ Ad eo ip (upN v 11 x.2.2) nw aw od sv (x.2.1)) (fun x => [(0, .ref (Ad 0)), (1, .int (nI x.1))]) (fun x => x.1 ≤ nw 1 ∧ x.2 = wRing nw (ot, 0) x.1 ∧ x.2.2 ≤ 3 * x.1) (fun x => nw 1 - x.1) ((0, (ot, 0))) (⟨Nat.zero_le _, rfl, Nat.zero_le _⟩) rfl rfl ?_
  rintro ⟨k, q⟩ hI7 ih7
  dsimp only at hI7 ih7 ⊢
  obtain ⟨hk1, hk2, hk3⟩ := hI7
  have htr := trAt_le nw k
  refine z_iload_n C dX6_writeRing_7 1 rfl ?_
  refine z_aload_n C dX6_writeRing_8 0 rfl ?_
  refine zm_get_now C hin k13 dX6_writeRing_9 ?_
  refine z_iconst (v := nI 1) C dX6_writeRing_12 (by decide) ?_
  refine zm_ald_now C (by omega) dX6_writeRing_13 ?_
  refine zn_icmp_ge C 102 dX6_writeRing_14 (by decide) (by omega) (by omega) (fun h1 => ?_) (fun h2 => ?_)
  · refine z_aload_n C dX6_writeRing_102 0 rfl ?_
    refine z_aload_n C dX6_writeRing_103 0 rfl ?_
    refine zm_get_outputMany C hin (x := q.2) k239 dX6_writeRing_104 rfl ?_
    refine zm_call C (mX6_told l D κ Ad _ _ _ _ _ _ _ _ (nI (q.2))) gX6_writeRing_X6_told rfl rfl rfl hdX6_told ⟨Nat.le_of_ble_eq_true rfl, Nat.le_of_ble_eq_true rfl⟩ rfl (Nat.le_of_ble_eq_true rfl) dX6_writeRing_107 ⟨Nat.zero_le _, Nat.zero_le _⟩ ?_
    exact z_iret C hr hk () (congrArg (fun x : Nat => some (Value.int (nI x))) (show (wRing nw (ot, 0) (nw 1)).2 = q.2 by rw [hk2, show nw 1 = k by omega])) trivial (List.Perm.of_eq (show MW κ Ad eo ip (upN (upN v 11 q.2) 1 0) nw aw od sv (q.1) = MW κ Ad eo ip (upN (upN v 11 (wRing nw (ot, 0) (nw 1)).2) 1 0) nw aw od sv (wRing nw (ot, 0) (nw 1)).1 by rw [show nw 1 = k by omega, ← hk2])) dX6_writeRing_110 (Nat.le_refl _) (Nat.le_refl _)
  · have hlk := hlo k (by omega)
    refine z_cut (α := Unit) (fun _z => True) (fun _z => MW κ Ad eo ip (upN v 11 (wBk2 nw q k).2) nw aw od sv ((wBk2 nw q k).1)) (fun _z => [(0, .ref (Ad 0)), (1, .int (nI k))]) (fun _z => []) 67 (fun _z hx67 => ?_) (fun cut67 => ?_)
    · have hw2 : (wBk2 nw q k).2 = q.2 + 2 := rfl
      refine z_iconst (v := nI 0) C dX6_writeRing_67 (by decide) ?_
      refine z_istore_n C [(3, .int (nI 0)), (0, .ref (Ad 0)), (1, .int (nI k))] dX6_writeRing_68 (by decide) rfl ?_
      refine z_lv [1, 2, 0] rfl ?_
      refine z_loop (σ := Nat × ((Nat → Nat) × Nat)) (fun x => MW κ Ad eo ip (upN v 11 x.2.2) nw aw od sv (x.2.1)) (fun x => [(0, .ref (Ad 0)), (1, .int (nI k)), (3, .int (nI x.1))]) (fun x => x.1 ≤ nw (5 + 6 * k + 5) ∧ x.2 = wRep (wBk2 nw q k) x.1 ∧ x.2.2 = q.2 + 2 + x.1) (fun x => nw (5 + 6 * k + 5) - x.1) ((0, wBk2 nw q k)) (⟨Nat.zero_le _, rfl, hw2⟩) rfl rfl ?_
      rintro ⟨i, r⟩ hI69 ih69
      dsimp only at hI69 ih69 ⊢
      obtain ⟨hi1, hi2, hi3⟩ := hI69
      refine z_iload_n C dX6_writeRing_69 2 rfl ?_
      refine z_aload_n C dX6_writeRing_70 0 rfl ?_
      refine zm_get_now C hin k13 dX6_writeRing_71 ?_
      refine z_iload_n C dX6_writeRing_74 1 rfl ?_
      refine zs_call C (mX6_b l D κ k) gX6_writeRing_X6_b rfl rfl rfl hdX6_b ⟨Nat.le_of_ble_eq_true rfl, Nat.le_of_ble_eq_true rfl⟩ rfl (Nat.le_of_ble_eq_true rfl) dX6_writeRing_75 ⟨Nat.zero_le _, Nat.zero_le _⟩ ?_
      refine z_iconst (v := nI 5) C dX6_writeRing_78 (by decide) ?_
      refine zn_iadd C dX6_writeRing_79 ?_
      refine zm_ald_now C (by omega) dX6_writeRing_80 ?_
      have g3 : nw ((5 + 6 * k) + 5) ≤ M := hB.j (by omega) (by omega)
      refine zn_icmp_ge C 96 dX6_writeRing_81 (by decide) (by omega) (by omega) (fun h4 => ?_) (fun h5 => ?_)
      · refine zn_iinc (n := 1) C [(1, .int (nI (k + 1))), (0, .ref (Ad 0)), (3, .int (nI i))] dX6_writeRing_96 1 rfl (by decide) rfl ?_
        refine z_goto (tgt := 7) C dX6_writeRing_99 (by decide) ?_
        refine z_lv [1, 0] rfl ?_
        exact ih7 (k + 1, r) ⟨by dsimp only; omega, by dsimp only; rw [hi2, hk2, show i = nw (5 + 6 * k + 5) by omega]; rfl, by dsimp only; omega⟩ (by dsimp only; omega)
      · refine z_aload_n C dX6_writeRing_84 0 rfl ?_
        refine z_bipush (v := nI 119) C dX6_writeRing_85 (by decide) ?_
        refine zm_call C (mX6_writes l D κ Ad _ _ _ _ _ _ _ _ 119 (by omega) (show r.2 < 200 by omega)) gX6_writeRing_X6_writes rfl rfl rfl hdX6_writes ⟨Nat.le_of_ble_eq_true rfl, Nat.le_of_ble_eq_true rfl⟩ rfl (Nat.le_of_ble_eq_true rfl) dX6_writeRing_87 ⟨Nat.zero_le _, Nat.zero_le _⟩ ?_
        refine zn_iinc (n := 1) C [(3, .int (nI (i + 1))), (0, .ref (Ad 0)), (1, .int (nI k))] dX6_writeRing_90 2 rfl (by decide) rfl ?_
        refine z_goto (tgt := 69) C dX6_writeRing_93 (by decide) ?_
        refine z_lv [1, 2, 0] rfl ?_
        exact ih69 (i + 1, wPut r 119) ⟨by dsimp only; omega, by dsimp only; rw [hi2]; rfl, by dsimp only [wPut]; omega⟩ (by dsimp only; omega)
    refine z_aload_n C dX6_writeRing_17 0 rfl ?_
    refine z_iload_n C dX6_writeRing_18 1 rfl ?_
    refine zm_call C (mX6_trainAt l D κ Ad _ _ _ _ _ _ _ _ M k hB (by omega)) gX6_writeRing_X6_trainAt rfl rfl rfl hdX6_trainAt ⟨Nat.le_of_ble_eq_true rfl, Nat.le_of_ble_eq_true rfl⟩ rfl (Nat.le_of_ble_eq_true rfl) dX6_writeRing_19 ⟨Nat.zero_le _, Nat.zero_le _⟩ ?_
    refine z_istore_n C [(2, .int (tI (trAt nw k))), (0, .ref (Ad 0)), (1, .int (nI k))] dX6_writeRing_22 (by decide) rfl ?_
    refine z_aload_n C dX6_writeRing_23 1 rfl ?_
    refine z_aload_n C dX6_writeRing_24 1 rfl ?_
    refine zm_get_now C hin k13 dX6_writeRing_25 ?_
    refine z_iload_n C dX6_writeRing_28 2 rfl ?_
    refine zs_call C (mX6_b l D κ k) gX6_writeRing_X6_b rfl rfl rfl hdX6_b ⟨Nat.le_of_ble_eq_true rfl, Nat.le_of_ble_eq_true rfl⟩ rfl (Nat.le_of_ble_eq_true rfl) dX6_writeRing_29 ⟨Nat.zero_le _, Nat.zero_le _⟩ ?_
    refine z_iconst (v := nI 4) C dX6_writeRing_32 (by decide) ?_
    refine zn_iadd C dX6_writeRing_33 ?_
    refine zm_ald_now C (by omega) dX6_writeRing_34 ?_
    have g6 : nw ((5 + 6 * k) + 4) ≤ M := hB.j (by omega) (by omega)
    refine z_iconst (v := nI 1) C dX6_writeRing_35 (by decide) ?_
    refine zn_icmp_ne C 44 dX6_writeRing_36 (by decide) (by omega) (by omega) (fun h7 => ?_) (fun h8 => ?_)
    · refine z_bipush (v := nI 45) C dX6_writeRing_44 (by decide) ?_
      refine zm_call C (mX6_writes l D κ Ad _ _ _ _ _ _ _ _ 45 (by omega) (show q.2 < 200 by omega)) gX6_writeRing_X6_writes rfl rfl rfl hdX6_writes ⟨Nat.le_of_ble_eq_true rfl, Nat.le_of_ble_eq_true rfl⟩ rfl (Nat.le_of_ble_eq_true rfl) dX6_writeRing_46 ⟨Nat.zero_le _, Nat.zero_le _⟩ ?_
      refine z_aload_n C dX6_writeRing_49 1 rfl ?_
      refine z_iload_n C dX6_writeRing_50 0 rfl ?_
      refine z_iconst (v := (-1)) C dX6_writeRing_51 (by decide) ?_
      refine zt_icmp_ne C 60 dX6_writeRing_52 (by decide) (by omega) (fun h9 => ?_) (fun h10 => ?_)
      · obtain ⟨d, hd⟩ : ∃ d, trAt nw k = d + 1 := ⟨trAt nw k - 1, by omega⟩
        rw [hd, tI_s]
        refine z_bipush (v := nI 48) C dX6_writeRing_60 (by decide) ?_
        refine z_iload_n C dX6_writeRing_62 0 rfl ?_
        refine zn_iadd C dX6_writeRing_63 ?_
        refine zm_call C (mX6_writes l D κ Ad _ _ _ _ _ _ _ _ (48 + d) (by omega) (show q.2 + 1 < 200 by omega)) gX6_writeRing_X6_writes rfl rfl rfl hdX6_writes ⟨Nat.le_of_ble_eq_true rfl, Nat.le_of_ble_eq_true rfl⟩ rfl (Nat.le_of_ble_eq_true rfl) dX6_writeRing_64 ⟨Nat.zero_le _, Nat.zero_le _⟩ ?_
        refine z_lv [1, 2] rfl ?_
        exact z_eq (cut67 () trivial) (show MW κ Ad eo ip (upN (upN (upN v 11 q.2) 11 (q.2 + 1)) 11 (q.2 + 1 + 1)) nw aw od sv (upN (upN (q.1) (q.2) 45) (q.2 + 1) (48 + d)) = MW κ Ad eo ip (upN v 11 (wBk2 nw q k).2) nw aw od sv ((wBk2 nw q k).1) by simp only [wBk2, wPut]; rw [if_neg (by omega), if_neg (by omega)]; simp only [hd, Nat.add_sub_cancel]; rfl) rfl rfl rfl
      · refine z_bipush (v := nI 95) C dX6_writeRing_55 (by decide) ?_
        refine z_goto (tgt := 64) C dX6_writeRing_57 (by decide) ?_
        refine zm_call C (mX6_writes l D κ Ad _ _ _ _ _ _ _ _ 95 (by omega) (show q.2 + 1 < 200 by omega)) gX6_writeRing_X6_writes rfl rfl rfl hdX6_writes ⟨Nat.le_of_ble_eq_true rfl, Nat.le_of_ble_eq_true rfl⟩ rfl (Nat.le_of_ble_eq_true rfl) dX6_writeRing_64 ⟨Nat.zero_le _, Nat.zero_le _⟩ ?_
        refine z_lv [1, 2] rfl ?_
        exact z_eq (cut67 () trivial) (show MW κ Ad eo ip (upN (upN (upN v 11 q.2) 11 (q.2 + 1)) 11 (q.2 + 1 + 1)) nw aw od sv (upN (upN (q.1) (q.2) 45) (q.2 + 1) 95) = MW κ Ad eo ip (upN v 11 (wBk2 nw q k).2) nw aw od sv ((wBk2 nw q k).1) by simp only [wBk2, wPut]; rw [if_neg (by omega), if_pos (by omega)]; rfl) rfl rfl rfl
    · refine z_bipush (v := nI 43) C dX6_writeRing_39 (by decide) ?_
      refine z_goto (tgt := 46) C dX6_writeRing_41 (by decide) ?_
      refine zm_call C (mX6_writes l D κ Ad _ _ _ _ _ _ _ _ 43 (by omega) (show q.2 < 200 by omega)) gX6_writeRing_X6_writes rfl rfl rfl hdX6_writes ⟨Nat.le_of_ble_eq_true rfl, Nat.le_of_ble_eq_true rfl⟩ rfl (Nat.le_of_ble_eq_true rfl) dX6_writeRing_46 ⟨Nat.zero_le _, Nat.zero_le _⟩ ?_
      refine z_aload_n C dX6_writeRing_49 1 rfl ?_
      refine z_iload_n C dX6_writeRing_50 0 rfl ?_
      refine z_iconst (v := (-1)) C dX6_writeRing_51 (by decide) ?_
      refine zt_icmp_ne C 60 dX6_writeRing_52 (by decide) (by omega) (fun h11 => ?_) (fun h12 => ?_)
      · obtain ⟨d, hd⟩ : ∃ d, trAt nw k = d + 1 := ⟨trAt nw k - 1, by omega⟩
        rw [hd, tI_s]
        refine z_bipush (v := nI 48) C dX6_writeRing_60 (by decide) ?_
        refine z_iload_n C dX6_writeRing_62 0 rfl ?_
        refine zn_iadd C dX6_writeRing_63 ?_
        refine zm_call C (mX6_writes l D κ Ad _ _ _ _ _ _ _ _ (48 + d) (by omega) (show q.2 + 1 < 200 by omega)) gX6_writeRing_X6_writes rfl rfl rfl hdX6_writes ⟨Nat.le_of_ble_eq_true rfl, Nat.le_of_ble_eq_true rfl⟩ rfl (Nat.le_of_ble_eq_true rfl) dX6_writeRing_64 ⟨Nat.zero_le _, Nat.zero_le _⟩ ?_
        refine z_lv [1, 2] rfl ?_
        exact z_eq (cut67 () trivial) (show MW κ Ad eo ip (upN (upN (upN v 11 q.2) 11 (q.2 + 1)) 11 (q.2 + 1 + 1)) nw aw od sv (upN (upN (q.1) (q.2) 43) (q.2 + 1) (48 + d)) = MW κ Ad eo ip (upN v 11 (wBk2 nw q k).2) nw aw od sv ((wBk2 nw q k).1) by simp only [wBk2, wPut]; rw [if_pos (by omega), if_neg (by omega)]; simp only [hd, Nat.add_sub_cancel]; rfl) rfl rfl rfl
      · refine z_bipush (v := nI 95) C dX6_writeRing_55 (by decide) ?_
        refine z_goto (tgt := 64) C dX6_writeRing_57 (by decide) ?_
        refine zm_call C (mX6_writes l D κ Ad _ _ _ _ _ _ _ _ 95 (by omega) (show q.2 + 1 < 200 by omega)) gX6_writeRing_X6_writes rfl rfl rfl hdX6_writes ⟨Nat.le_of_ble_eq_true rfl, Nat.le_of_ble_eq_true rfl⟩ rfl (Nat.le_of_ble_eq_true rfl) dX6_writeRing_64 ⟨Nat.zero_le _, Nat.zero_le _⟩ ?_
        refine z_lv [1, 2] rfl ?_
        exact z_eq (cut67 () trivial) (show MW κ Ad eo ip (upN (upN (upN v 11 q.2) 11 (q.2 + 1)) 11 (q.2 + 1 + 1)) nw aw od sv (upN (upN (q.1) (q.2) 43) (q.2 + 1) 95) = MW κ Ad eo ip (upN v 11 (wBk2 nw q k).2) nw aw od sv ((wBk2 nw q k).1) by simp only [wBk2, wPut]; rw [if_pos (by omega), if_pos (by omega)]; rfl) rfl rfl rfl
theorem hdX6_writeRing : yX6_writeRing.cls = RX6 ∧ yX6_writeRing.cls ≠ "java/lang/invoke/MethodHandle" ∧ yX6_writeRing.cls ≠ "java/lang/invoke/VarHandle" ∧ (parseMethodDescriptor yX6_writeRing.desc).map (fun d => d.parameters.length) = some 0 := by decide +kernel
set_option maxRecDepth 100000 in
set_option maxHeartbeats 4000000 in
theorem mX6_writeTrain_no (l : Launch) (D : va_G) (κ : Nat → ClassId) (Ad : Nat → Nat) (eo : Int32) (ip : Nat → Int32) (v nw aw od sv ot : Nat → Nat) (M : Nat) (x : Int32)  (hB : Bd M nw) (hx : isB (nw 2) x = false) : mM l yX6_writeTrain wsX6_writeTrain { frames := 2, cells := 0, slots := 0, locals := 43 } D κ Ad [.int (x)] eo ip v nw aw od sv ot (some (.int (nI 0))) eo ip (upN v 1 1) nw aw od sv ot := by
  refine zM_of (cc := cX6_writeTrain) (maxL := 2) (rt := (some .int)) [(0, .ref (Ad 0)), (1, .int (x))] (by decide +kernel) rfl (Nat.le_of_ble_eq_true rfl) rfl ?_
  intro p e s m args below meth c A C hr hk hnm
  have C : zC p s m args c cX6_writeTrain 2 wsX6_writeTrain RX6 D (zTy κ) A := C
  have hin : ∀ w ∈ wsX60, w ∈ wsX6_writeTrain := fun w h => List.mem_cons_of_mem _ (List.mem_append_right _ h)
  have k239 : Cond.fieldLink RX6 239 "PeatRailwayModel" "outputMany" "I" ∈ wsX6_writeTrain := by decide +kernel
  have k13 : Cond.fieldLink RX6 13 "PeatRailwayModel" "now" "[I" ∈ wsX6_writeTrain := by decide +kernel
  obtain ⟨hM1, hM2, ht0, hnb, hnt, hj, hp⟩ := id hB
  refine z_aload_n C dX6_writeTrain_0 0 rfl ?_
  refine z_iload_n C dX6_writeTrain_1 1 rfl ?_
  refine zm_call C (mX6_isTrain_no l D κ Ad _ _ _ _ _ _ _ _ M x hB hx) gX6_writeTrain_X6_isTrain rfl rfl rfl hdX6_isTrain ⟨Nat.le_of_ble_eq_true rfl, Nat.le_of_ble_eq_true rfl⟩ rfl (Nat.le_of_ble_eq_true rfl) dX6_writeTrain_2 ⟨Nat.zero_le _, Nat.zero_le _⟩ ?_
  refine zb_if_ne C 14 dX6_writeTrain_5 (by decide) (fun q => absurd q (by decide)) (fun _ => ?_)
  refine z_aload_n C dX6_writeTrain_8 0 rfl ?_
  refine z_iconst (v := nI 1) C dX6_writeTrain_9 (by decide) ?_
  refine zm_call C (mX6_refuse l D κ Ad _ _ _ _ _ _ _ _ 1) gX6_writeTrain_X6_refuse rfl rfl rfl hdX6_refuse ⟨Nat.le_of_ble_eq_true rfl, Nat.le_of_ble_eq_true rfl⟩ rfl (Nat.le_of_ble_eq_true rfl) dX6_writeTrain_10 ⟨Nat.zero_le _, Nat.zero_le _⟩ ?_
  exact z_iret C hr hk () (rfl) trivial (List.Perm.of_eq rfl) dX6_writeTrain_13 (Nat.le_refl _) (Nat.le_refl _)
theorem hdX6_writeTrain : yX6_writeTrain.cls = RX6 ∧ yX6_writeTrain.cls ≠ "java/lang/invoke/MethodHandle" ∧ yX6_writeTrain.cls ≠ "java/lang/invoke/VarHandle" ∧ (parseMethodDescriptor yX6_writeTrain.desc).map (fun d => d.parameters.length) = some 1 := by decide +kernel
set_option maxRecDepth 100000 in
set_option maxHeartbeats 4000000 in
theorem mX6_writeTrain_ok (l : Launch) (D : va_G) (κ : Nat → ClassId) (Ad : Nat → Nat) (eo : Int32) (ip : Nat → Int32) (v nw aw od sv ot : Nat → Nat) (M : Nat) (t : Nat) (hB : Bd M nw) (hk0 : t < nw 2) (hq1 : nw (65 + 5 * t + 3) < 100) (hq2 : nw (5 + 6 * nw (65 + 5 * t + 2) + 0) < 100) (hq3 : nw (65 + 5 * t + 0) < 100) : mM l yX6_writeTrain wsX6_writeTrain { frames := 2, cells := 0, slots := 0, locals := 43 } D κ Ad [.int (nI t)] eo ip v nw aw od sv ot (some (.int (nI ((wTrn nw (ot, 0) t).2)))) eo ip (upN (upN v 11 ((wTrn nw (ot, 0) t).2)) 1 0) nw aw od sv ((wTrn nw (ot, 0) t).1) := by
  refine zM_of (cc := cX6_writeTrain) (maxL := 2) (rt := (some .int)) [(0, .ref (Ad 0)), (1, .int (nI t))] (by decide +kernel) rfl (Nat.le_of_ble_eq_true rfl) rfl ?_
  intro p e s m args below meth c A C hr hk hnm
  have C : zC p s m args c cX6_writeTrain 2 wsX6_writeTrain RX6 D (zTy κ) A := C
  have hin : ∀ w ∈ wsX60, w ∈ wsX6_writeTrain := fun w h => List.mem_cons_of_mem _ (List.mem_append_right _ h)
  have k239 : Cond.fieldLink RX6 239 "PeatRailwayModel" "outputMany" "I" ∈ wsX6_writeTrain := by decide +kernel
  have k13 : Cond.fieldLink RX6 13 "PeatRailwayModel" "now" "[I" ∈ wsX6_writeTrain := by decide +kernel
  obtain ⟨hM1, hM2, ht0, hnb, hnt, hj, hp⟩ := id hB
  refine z_aload_n C dX6_writeTrain_0 0 rfl ?_
  refine z_iload_n C dX6_writeTrain_1 1 rfl ?_
  refine zm_call C (mX6_isTrain_k l D κ Ad _ _ _ _ _ _ _ _ M t hB (by omega)) gX6_writeTrain_X6_isTrain rfl rfl rfl hdX6_isTrain ⟨Nat.le_of_ble_eq_true rfl, Nat.le_of_ble_eq_true rfl⟩ rfl (Nat.le_of_ble_eq_true rfl) dX6_writeTrain_2 ⟨Nat.zero_le _, Nat.zero_le _⟩ ?_
  refine zb_if_ne C 14 dX6_writeTrain_5 (by decide) (fun _ => ?_) (fun q => absurd q (by decide))
  refine z_aload_n C dX6_writeTrain_14 0 rfl ?_
  refine z_iconst (v := nI 0) C dX6_writeTrain_15 (by decide) ?_
  refine zm_put_outputMany C hin k239 dX6_writeTrain_16 ?_
  refine z_aload_n C dX6_writeTrain_19 0 rfl ?_
  refine z_aload_n C dX6_writeTrain_20 0 rfl ?_
  refine zm_get_now C hin k13 dX6_writeTrain_21 ?_
  refine z_iload_n C dX6_writeTrain_24 1 rfl ?_
  refine zs_call C (mX6_t l D κ t) gX6_writeTrain_X6_t rfl rfl rfl hdX6_t ⟨Nat.le_of_ble_eq_true rfl, Nat.le_of_ble_eq_true rfl⟩ rfl (Nat.le_of_ble_eq_true rfl) dX6_writeTrain_25 ⟨Nat.zero_le _, Nat.zero_le _⟩ ?_
  refine z_iconst (v := nI 2) C dX6_writeTrain_28 (by decide) ?_
  refine zn_iadd C dX6_writeTrain_29 ?_
  refine zm_ald_now C (by omega) dX6_writeTrain_30 ?_
  have g1 : nw ((65 + 5 * t) + 2) ≤ M := hB.j (by omega) (by omega)
  have q2 : nw ((65 + 5 * t) + 2) < nw 1 := hB.p (t := t) (by omega)
  refine zm_call C (mX6_writesNumber l D κ Ad _ _ _ _ _ _ _ _ (nw ((65 + 5 * t) + 2)) (by omega) (show 0 < 190 by omega)) gX6_writeTrain_X6_writesNumber rfl rfl rfl hdX6_writesNumber ⟨Nat.le_of_ble_eq_true rfl, Nat.le_of_ble_eq_true rfl⟩ rfl (Nat.le_of_ble_eq_true rfl) dX6_writeTrain_31 ⟨Nat.zero_le _, Nat.zero_le _⟩ ?_
  have w3 : (wNum (ot, 0) (nw ((65 + 5 * t) + 2))).2 ≤ 0 + 2 := wNum_2 (ot, 0) (nw ((65 + 5 * t) + 2))
  refine z_aload_n C dX6_writeTrain_34 0 rfl ?_
  refine z_bipush (v := nI 58) C dX6_writeTrain_35 (by decide) ?_
  refine zm_call C (mX6_writes l D κ Ad _ _ _ _ _ _ _ _ 58 (by omega) (show (wNum (ot, 0) (nw ((65 + 5 * t) + 2))).2 < 200 by omega)) gX6_writeTrain_X6_writes rfl rfl rfl hdX6_writes ⟨Nat.le_of_ble_eq_true rfl, Nat.le_of_ble_eq_true rfl⟩ rfl (Nat.le_of_ble_eq_true rfl) dX6_writeTrain_37 ⟨Nat.zero_le _, Nat.zero_le _⟩ ?_
  refine z_aload_n C dX6_writeTrain_40 0 rfl ?_
  refine z_aload_n C dX6_writeTrain_41 0 rfl ?_
  refine zm_get_now C hin k13 dX6_writeTrain_42 ?_
  refine z_iload_n C dX6_writeTrain_45 1 rfl ?_
  refine zs_call C (mX6_t l D κ t) gX6_writeTrain_X6_t rfl rfl rfl hdX6_t ⟨Nat.le_of_ble_eq_true rfl, Nat.le_of_ble_eq_true rfl⟩ rfl (Nat.le_of_ble_eq_true rfl) dX6_writeTrain_46 ⟨Nat.zero_le _, Nat.zero_le _⟩ ?_
  refine z_iconst (v := nI 3) C dX6_writeTrain_49 (by decide) ?_
  refine zn_iadd C dX6_writeTrain_50 ?_
  refine zm_ald_now C (by omega) dX6_writeTrain_51 ?_
  have g4 : nw ((65 + 5 * t) + 3) ≤ M := hB.j (by omega) (by omega)
  refine zm_call C (mX6_writesNumber l D κ Ad _ _ _ _ _ _ _ _ (nw ((65 + 5 * t) + 3)) (by omega) (show (wNum (ot, 0) (nw ((65 + 5 * t) + 2))).2 + 1 < 190 by omega)) gX6_writeTrain_X6_writesNumber rfl rfl rfl hdX6_writesNumber ⟨Nat.le_of_ble_eq_true rfl, Nat.le_of_ble_eq_true rfl⟩ rfl (Nat.le_of_ble_eq_true rfl) dX6_writeTrain_52 ⟨Nat.zero_le _, Nat.zero_le _⟩ ?_
  have w5 : (wNum (upN ((wNum (ot, 0) (nw ((65 + 5 * t) + 2))).1) ((wNum (ot, 0) (nw ((65 + 5 * t) + 2))).2) 58, (wNum (ot, 0) (nw ((65 + 5 * t) + 2))).2 + 1) (nw ((65 + 5 * t) + 3))).2 ≤ (wNum (ot, 0) (nw ((65 + 5 * t) + 2))).2 + 1 + 2 := wNum_2 (upN ((wNum (ot, 0) (nw ((65 + 5 * t) + 2))).1) ((wNum (ot, 0) (nw ((65 + 5 * t) + 2))).2) 58, (wNum (ot, 0) (nw ((65 + 5 * t) + 2))).2 + 1) (nw ((65 + 5 * t) + 3))
  refine z_aload_n C dX6_writeTrain_55 0 rfl ?_
  refine z_bipush (v := nI 47) C dX6_writeTrain_56 (by decide) ?_
  refine zm_call C (mX6_writes l D κ Ad _ _ _ _ _ _ _ _ 47 (by omega) (show (wNum (upN ((wNum (ot, 0) (nw ((65 + 5 * t) + 2))).1) ((wNum (ot, 0) (nw ((65 + 5 * t) + 2))).2) 58, (wNum (ot, 0) (nw ((65 + 5 * t) + 2))).2 + 1) (nw ((65 + 5 * t) + 3))).2 < 200 by omega)) gX6_writeTrain_X6_writes rfl rfl rfl hdX6_writes ⟨Nat.le_of_ble_eq_true rfl, Nat.le_of_ble_eq_true rfl⟩ rfl (Nat.le_of_ble_eq_true rfl) dX6_writeTrain_58 ⟨Nat.zero_le _, Nat.zero_le _⟩ ?_
  refine z_aload_n C dX6_writeTrain_61 0 rfl ?_
  refine z_aload_n C dX6_writeTrain_62 0 rfl ?_
  refine zm_get_now C hin k13 dX6_writeTrain_63 ?_
  refine z_aload_n C dX6_writeTrain_66 0 rfl ?_
  refine zm_get_now C hin k13 dX6_writeTrain_67 ?_
  refine z_iload_n C dX6_writeTrain_70 1 rfl ?_
  refine zs_call C (mX6_t l D κ t) gX6_writeTrain_X6_t rfl rfl rfl hdX6_t ⟨Nat.le_of_ble_eq_true rfl, Nat.le_of_ble_eq_true rfl⟩ rfl (Nat.le_of_ble_eq_true rfl) dX6_writeTrain_71 ⟨Nat.zero_le _, Nat.zero_le _⟩ ?_
  refine z_iconst (v := nI 2) C dX6_writeTrain_74 (by decide) ?_
  refine zn_iadd C dX6_writeTrain_75 ?_
  refine zm_ald_now C (by omega) dX6_writeTrain_76 ?_
  have g6 : nw ((65 + 5 * t) + 2) ≤ M := hB.j (by omega) (by omega)
  have q7 : nw ((65 + 5 * t) + 2) < nw 1 := hB.p (t := t) (by omega)
  refine zs_call C (mX6_b l D κ (nw ((65 + 5 * t) + 2))) gX6_writeTrain_X6_b rfl rfl rfl hdX6_b ⟨Nat.le_of_ble_eq_true rfl, Nat.le_of_ble_eq_true rfl⟩ rfl (Nat.le_of_ble_eq_true rfl) dX6_writeTrain_77 ⟨Nat.zero_le _, Nat.zero_le _⟩ ?_
  refine z_iconst (v := nI 0) C dX6_writeTrain_80 (by decide) ?_
  refine zn_iadd C dX6_writeTrain_81 ?_
  refine zm_ald_now C (by omega) dX6_writeTrain_82 ?_
  have g8 : nw ((5 + 6 * (nw ((65 + 5 * t) + 2))) + 0) ≤ M := hB.j (by omega) (by omega)
  refine zm_call C (mX6_writesNumber l D κ Ad _ _ _ _ _ _ _ _ (nw ((5 + 6 * (nw ((65 + 5 * t) + 2))) + 0)) (by omega) (show (wNum (upN ((wNum (ot, 0) (nw ((65 + 5 * t) + 2))).1) ((wNum (ot, 0) (nw ((65 + 5 * t) + 2))).2) 58, (wNum (ot, 0) (nw ((65 + 5 * t) + 2))).2 + 1) (nw ((65 + 5 * t) + 3))).2 + 1 < 190 by omega)) gX6_writeTrain_X6_writesNumber rfl rfl rfl hdX6_writesNumber ⟨Nat.le_of_ble_eq_true rfl, Nat.le_of_ble_eq_true rfl⟩ rfl (Nat.le_of_ble_eq_true rfl) dX6_writeTrain_83 ⟨Nat.zero_le _, Nat.zero_le _⟩ ?_
  have w9 : (wNum (upN ((wNum (upN ((wNum (ot, 0) (nw ((65 + 5 * t) + 2))).1) ((wNum (ot, 0) (nw ((65 + 5 * t) + 2))).2) 58, (wNum (ot, 0) (nw ((65 + 5 * t) + 2))).2 + 1) (nw ((65 + 5 * t) + 3))).1) ((wNum (upN ((wNum (ot, 0) (nw ((65 + 5 * t) + 2))).1) ((wNum (ot, 0) (nw ((65 + 5 * t) + 2))).2) 58, (wNum (ot, 0) (nw ((65 + 5 * t) + 2))).2 + 1) (nw ((65 + 5 * t) + 3))).2) 47, (wNum (upN ((wNum (ot, 0) (nw ((65 + 5 * t) + 2))).1) ((wNum (ot, 0) (nw ((65 + 5 * t) + 2))).2) 58, (wNum (ot, 0) (nw ((65 + 5 * t) + 2))).2 + 1) (nw ((65 + 5 * t) + 3))).2 + 1) (nw ((5 + 6 * (nw ((65 + 5 * t) + 2))) + 0))).2 ≤ (wNum (upN ((wNum (ot, 0) (nw ((65 + 5 * t) + 2))).1) ((wNum (ot, 0) (nw ((65 + 5 * t) + 2))).2) 58, (wNum (ot, 0) (nw ((65 + 5 * t) + 2))).2 + 1) (nw ((65 + 5 * t) + 3))).2 + 1 + 2 := wNum_2 (upN ((wNum (upN ((wNum (ot, 0) (nw ((65 + 5 * t) + 2))).1) ((wNum (ot, 0) (nw ((65 + 5 * t) + 2))).2) 58, (wNum (ot, 0) (nw ((65 + 5 * t) + 2))).2 + 1) (nw ((65 + 5 * t) + 3))).1) ((wNum (upN ((wNum (ot, 0) (nw ((65 + 5 * t) + 2))).1) ((wNum (ot, 0) (nw ((65 + 5 * t) + 2))).2) 58, (wNum (ot, 0) (nw ((65 + 5 * t) + 2))).2 + 1) (nw ((65 + 5 * t) + 3))).2) 47, (wNum (upN ((wNum (ot, 0) (nw ((65 + 5 * t) + 2))).1) ((wNum (ot, 0) (nw ((65 + 5 * t) + 2))).2) 58, (wNum (ot, 0) (nw ((65 + 5 * t) + 2))).2 + 1) (nw ((65 + 5 * t) + 3))).2 + 1) (nw ((5 + 6 * (nw ((65 + 5 * t) + 2))) + 0))
  refine z_aload_n C dX6_writeTrain_86 0 rfl ?_
  refine z_bipush (v := nI 32) C dX6_writeTrain_87 (by decide) ?_
  refine zm_call C (mX6_writes l D κ Ad _ _ _ _ _ _ _ _ 32 (by omega) (show (wNum (upN ((wNum (upN ((wNum (ot, 0) (nw ((65 + 5 * t) + 2))).1) ((wNum (ot, 0) (nw ((65 + 5 * t) + 2))).2) 58, (wNum (ot, 0) (nw ((65 + 5 * t) + 2))).2 + 1) (nw ((65 + 5 * t) + 3))).1) ((wNum (upN ((wNum (ot, 0) (nw ((65 + 5 * t) + 2))).1) ((wNum (ot, 0) (nw ((65 + 5 * t) + 2))).2) 58, (wNum (ot, 0) (nw ((65 + 5 * t) + 2))).2 + 1) (nw ((65 + 5 * t) + 3))).2) 47, (wNum (upN ((wNum (ot, 0) (nw ((65 + 5 * t) + 2))).1) ((wNum (ot, 0) (nw ((65 + 5 * t) + 2))).2) 58, (wNum (ot, 0) (nw ((65 + 5 * t) + 2))).2 + 1) (nw ((65 + 5 * t) + 3))).2 + 1) (nw ((5 + 6 * (nw ((65 + 5 * t) + 2))) + 0))).2 < 200 by omega)) gX6_writeTrain_X6_writes rfl rfl rfl hdX6_writes ⟨Nat.le_of_ble_eq_true rfl, Nat.le_of_ble_eq_true rfl⟩ rfl (Nat.le_of_ble_eq_true rfl) dX6_writeTrain_89 ⟨Nat.zero_le _, Nat.zero_le _⟩ ?_
  refine z_aload_n C dX6_writeTrain_92 0 rfl ?_
  refine z_aload_n C dX6_writeTrain_93 0 rfl ?_
  refine zm_get_now C hin k13 dX6_writeTrain_94 ?_
  refine z_iload_n C dX6_writeTrain_97 1 rfl ?_
  refine zs_call C (mX6_t l D κ t) gX6_writeTrain_X6_t rfl rfl rfl hdX6_t ⟨Nat.le_of_ble_eq_true rfl, Nat.le_of_ble_eq_true rfl⟩ rfl (Nat.le_of_ble_eq_true rfl) dX6_writeTrain_98 ⟨Nat.zero_le _, Nat.zero_le _⟩ ?_
  refine z_iconst (v := nI 0) C dX6_writeTrain_101 (by decide) ?_
  refine zn_iadd C dX6_writeTrain_102 ?_
  refine zm_ald_now C (by omega) dX6_writeTrain_103 ?_
  have g10 : nw ((65 + 5 * t) + 0) ≤ M := hB.j (by omega) (by omega)
  refine zm_call C (mX6_writesNumber l D κ Ad _ _ _ _ _ _ _ _ (nw ((65 + 5 * t) + 0)) (by omega) (show (wNum (upN ((wNum (upN ((wNum (ot, 0) (nw ((65 + 5 * t) + 2))).1) ((wNum (ot, 0) (nw ((65 + 5 * t) + 2))).2) 58, (wNum (ot, 0) (nw ((65 + 5 * t) + 2))).2 + 1) (nw ((65 + 5 * t) + 3))).1) ((wNum (upN ((wNum (ot, 0) (nw ((65 + 5 * t) + 2))).1) ((wNum (ot, 0) (nw ((65 + 5 * t) + 2))).2) 58, (wNum (ot, 0) (nw ((65 + 5 * t) + 2))).2 + 1) (nw ((65 + 5 * t) + 3))).2) 47, (wNum (upN ((wNum (ot, 0) (nw ((65 + 5 * t) + 2))).1) ((wNum (ot, 0) (nw ((65 + 5 * t) + 2))).2) 58, (wNum (ot, 0) (nw ((65 + 5 * t) + 2))).2 + 1) (nw ((65 + 5 * t) + 3))).2 + 1) (nw ((5 + 6 * (nw ((65 + 5 * t) + 2))) + 0))).2 + 1 < 190 by omega)) gX6_writeTrain_X6_writesNumber rfl rfl rfl hdX6_writesNumber ⟨Nat.le_of_ble_eq_true rfl, Nat.le_of_ble_eq_true rfl⟩ rfl (Nat.le_of_ble_eq_true rfl) dX6_writeTrain_104 ⟨Nat.zero_le _, Nat.zero_le _⟩ ?_
  have w11 : (wNum (upN ((wNum (upN ((wNum (upN ((wNum (ot, 0) (nw ((65 + 5 * t) + 2))).1) ((wNum (ot, 0) (nw ((65 + 5 * t) + 2))).2) 58, (wNum (ot, 0) (nw ((65 + 5 * t) + 2))).2 + 1) (nw ((65 + 5 * t) + 3))).1) ((wNum (upN ((wNum (ot, 0) (nw ((65 + 5 * t) + 2))).1) ((wNum (ot, 0) (nw ((65 + 5 * t) + 2))).2) 58, (wNum (ot, 0) (nw ((65 + 5 * t) + 2))).2 + 1) (nw ((65 + 5 * t) + 3))).2) 47, (wNum (upN ((wNum (ot, 0) (nw ((65 + 5 * t) + 2))).1) ((wNum (ot, 0) (nw ((65 + 5 * t) + 2))).2) 58, (wNum (ot, 0) (nw ((65 + 5 * t) + 2))).2 + 1) (nw ((65 + 5 * t) + 3))).2 + 1) (nw ((5 + 6 * (nw ((65 + 5 * t) + 2))) + 0))).1) ((wNum (upN ((wNum (upN ((wNum (ot, 0) (nw ((65 + 5 * t) + 2))).1) ((wNum (ot, 0) (nw ((65 + 5 * t) + 2))).2) 58, (wNum (ot, 0) (nw ((65 + 5 * t) + 2))).2 + 1) (nw ((65 + 5 * t) + 3))).1) ((wNum (upN ((wNum (ot, 0) (nw ((65 + 5 * t) + 2))).1) ((wNum (ot, 0) (nw ((65 + 5 * t) + 2))).2) 58, (wNum (ot, 0) (nw ((65 + 5 * t) + 2))).2 + 1) (nw ((65 + 5 * t) + 3))).2) 47, (wNum (upN ((wNum (ot, 0) (nw ((65 + 5 * t) + 2))).1) ((wNum (ot, 0) (nw ((65 + 5 * t) + 2))).2) 58, (wNum (ot, 0) (nw ((65 + 5 * t) + 2))).2 + 1) (nw ((65 + 5 * t) + 3))).2 + 1) (nw ((5 + 6 * (nw ((65 + 5 * t) + 2))) + 0))).2) 32, (wNum (upN ((wNum (upN ((wNum (ot, 0) (nw ((65 + 5 * t) + 2))).1) ((wNum (ot, 0) (nw ((65 + 5 * t) + 2))).2) 58, (wNum (ot, 0) (nw ((65 + 5 * t) + 2))).2 + 1) (nw ((65 + 5 * t) + 3))).1) ((wNum (upN ((wNum (ot, 0) (nw ((65 + 5 * t) + 2))).1) ((wNum (ot, 0) (nw ((65 + 5 * t) + 2))).2) 58, (wNum (ot, 0) (nw ((65 + 5 * t) + 2))).2 + 1) (nw ((65 + 5 * t) + 3))).2) 47, (wNum (upN ((wNum (ot, 0) (nw ((65 + 5 * t) + 2))).1) ((wNum (ot, 0) (nw ((65 + 5 * t) + 2))).2) 58, (wNum (ot, 0) (nw ((65 + 5 * t) + 2))).2 + 1) (nw ((65 + 5 * t) + 3))).2 + 1) (nw ((5 + 6 * (nw ((65 + 5 * t) + 2))) + 0))).2 + 1) (nw ((65 + 5 * t) + 0))).2 ≤ (wNum (upN ((wNum (upN ((wNum (ot, 0) (nw ((65 + 5 * t) + 2))).1) ((wNum (ot, 0) (nw ((65 + 5 * t) + 2))).2) 58, (wNum (ot, 0) (nw ((65 + 5 * t) + 2))).2 + 1) (nw ((65 + 5 * t) + 3))).1) ((wNum (upN ((wNum (ot, 0) (nw ((65 + 5 * t) + 2))).1) ((wNum (ot, 0) (nw ((65 + 5 * t) + 2))).2) 58, (wNum (ot, 0) (nw ((65 + 5 * t) + 2))).2 + 1) (nw ((65 + 5 * t) + 3))).2) 47, (wNum (upN ((wNum (ot, 0) (nw ((65 + 5 * t) + 2))).1) ((wNum (ot, 0) (nw ((65 + 5 * t) + 2))).2) 58, (wNum (ot, 0) (nw ((65 + 5 * t) + 2))).2 + 1) (nw ((65 + 5 * t) + 3))).2 + 1) (nw ((5 + 6 * (nw ((65 + 5 * t) + 2))) + 0))).2 + 1 + 2 := wNum_2 (upN ((wNum (upN ((wNum (upN ((wNum (ot, 0) (nw ((65 + 5 * t) + 2))).1) ((wNum (ot, 0) (nw ((65 + 5 * t) + 2))).2) 58, (wNum (ot, 0) (nw ((65 + 5 * t) + 2))).2 + 1) (nw ((65 + 5 * t) + 3))).1) ((wNum (upN ((wNum (ot, 0) (nw ((65 + 5 * t) + 2))).1) ((wNum (ot, 0) (nw ((65 + 5 * t) + 2))).2) 58, (wNum (ot, 0) (nw ((65 + 5 * t) + 2))).2 + 1) (nw ((65 + 5 * t) + 3))).2) 47, (wNum (upN ((wNum (ot, 0) (nw ((65 + 5 * t) + 2))).1) ((wNum (ot, 0) (nw ((65 + 5 * t) + 2))).2) 58, (wNum (ot, 0) (nw ((65 + 5 * t) + 2))).2 + 1) (nw ((65 + 5 * t) + 3))).2 + 1) (nw ((5 + 6 * (nw ((65 + 5 * t) + 2))) + 0))).1) ((wNum (upN ((wNum (upN ((wNum (ot, 0) (nw ((65 + 5 * t) + 2))).1) ((wNum (ot, 0) (nw ((65 + 5 * t) + 2))).2) 58, (wNum (ot, 0) (nw ((65 + 5 * t) + 2))).2 + 1) (nw ((65 + 5 * t) + 3))).1) ((wNum (upN ((wNum (ot, 0) (nw ((65 + 5 * t) + 2))).1) ((wNum (ot, 0) (nw ((65 + 5 * t) + 2))).2) 58, (wNum (ot, 0) (nw ((65 + 5 * t) + 2))).2 + 1) (nw ((65 + 5 * t) + 3))).2) 47, (wNum (upN ((wNum (ot, 0) (nw ((65 + 5 * t) + 2))).1) ((wNum (ot, 0) (nw ((65 + 5 * t) + 2))).2) 58, (wNum (ot, 0) (nw ((65 + 5 * t) + 2))).2 + 1) (nw ((65 + 5 * t) + 3))).2 + 1) (nw ((5 + 6 * (nw ((65 + 5 * t) + 2))) + 0))).2) 32, (wNum (upN ((wNum (upN ((wNum (ot, 0) (nw ((65 + 5 * t) + 2))).1) ((wNum (ot, 0) (nw ((65 + 5 * t) + 2))).2) 58, (wNum (ot, 0) (nw ((65 + 5 * t) + 2))).2 + 1) (nw ((65 + 5 * t) + 3))).1) ((wNum (upN ((wNum (ot, 0) (nw ((65 + 5 * t) + 2))).1) ((wNum (ot, 0) (nw ((65 + 5 * t) + 2))).2) 58, (wNum (ot, 0) (nw ((65 + 5 * t) + 2))).2 + 1) (nw ((65 + 5 * t) + 3))).2) 47, (wNum (upN ((wNum (ot, 0) (nw ((65 + 5 * t) + 2))).1) ((wNum (ot, 0) (nw ((65 + 5 * t) + 2))).2) 58, (wNum (ot, 0) (nw ((65 + 5 * t) + 2))).2 + 1) (nw ((65 + 5 * t) + 3))).2 + 1) (nw ((5 + 6 * (nw ((65 + 5 * t) + 2))) + 0))).2 + 1) (nw ((65 + 5 * t) + 0))
  refine z_aload_n C dX6_writeTrain_107 0 rfl ?_
  refine z_bipush (v := nI 119) C dX6_writeTrain_108 (by decide) ?_
  refine zm_call C (mX6_writes l D κ Ad _ _ _ _ _ _ _ _ 119 (by omega) (show (wNum (upN ((wNum (upN ((wNum (upN ((wNum (ot, 0) (nw ((65 + 5 * t) + 2))).1) ((wNum (ot, 0) (nw ((65 + 5 * t) + 2))).2) 58, (wNum (ot, 0) (nw ((65 + 5 * t) + 2))).2 + 1) (nw ((65 + 5 * t) + 3))).1) ((wNum (upN ((wNum (ot, 0) (nw ((65 + 5 * t) + 2))).1) ((wNum (ot, 0) (nw ((65 + 5 * t) + 2))).2) 58, (wNum (ot, 0) (nw ((65 + 5 * t) + 2))).2 + 1) (nw ((65 + 5 * t) + 3))).2) 47, (wNum (upN ((wNum (ot, 0) (nw ((65 + 5 * t) + 2))).1) ((wNum (ot, 0) (nw ((65 + 5 * t) + 2))).2) 58, (wNum (ot, 0) (nw ((65 + 5 * t) + 2))).2 + 1) (nw ((65 + 5 * t) + 3))).2 + 1) (nw ((5 + 6 * (nw ((65 + 5 * t) + 2))) + 0))).1) ((wNum (upN ((wNum (upN ((wNum (ot, 0) (nw ((65 + 5 * t) + 2))).1) ((wNum (ot, 0) (nw ((65 + 5 * t) + 2))).2) 58, (wNum (ot, 0) (nw ((65 + 5 * t) + 2))).2 + 1) (nw ((65 + 5 * t) + 3))).1) ((wNum (upN ((wNum (ot, 0) (nw ((65 + 5 * t) + 2))).1) ((wNum (ot, 0) (nw ((65 + 5 * t) + 2))).2) 58, (wNum (ot, 0) (nw ((65 + 5 * t) + 2))).2 + 1) (nw ((65 + 5 * t) + 3))).2) 47, (wNum (upN ((wNum (ot, 0) (nw ((65 + 5 * t) + 2))).1) ((wNum (ot, 0) (nw ((65 + 5 * t) + 2))).2) 58, (wNum (ot, 0) (nw ((65 + 5 * t) + 2))).2 + 1) (nw ((65 + 5 * t) + 3))).2 + 1) (nw ((5 + 6 * (nw ((65 + 5 * t) + 2))) + 0))).2) 32, (wNum (upN ((wNum (upN ((wNum (ot, 0) (nw ((65 + 5 * t) + 2))).1) ((wNum (ot, 0) (nw ((65 + 5 * t) + 2))).2) 58, (wNum (ot, 0) (nw ((65 + 5 * t) + 2))).2 + 1) (nw ((65 + 5 * t) + 3))).1) ((wNum (upN ((wNum (ot, 0) (nw ((65 + 5 * t) + 2))).1) ((wNum (ot, 0) (nw ((65 + 5 * t) + 2))).2) 58, (wNum (ot, 0) (nw ((65 + 5 * t) + 2))).2 + 1) (nw ((65 + 5 * t) + 3))).2) 47, (wNum (upN ((wNum (ot, 0) (nw ((65 + 5 * t) + 2))).1) ((wNum (ot, 0) (nw ((65 + 5 * t) + 2))).2) 58, (wNum (ot, 0) (nw ((65 + 5 * t) + 2))).2 + 1) (nw ((65 + 5 * t) + 3))).2 + 1) (nw ((5 + 6 * (nw ((65 + 5 * t) + 2))) + 0))).2 + 1) (nw ((65 + 5 * t) + 0))).2 < 200 by omega)) gX6_writeTrain_X6_writes rfl rfl rfl hdX6_writes ⟨Nat.le_of_ble_eq_true rfl, Nat.le_of_ble_eq_true rfl⟩ rfl (Nat.le_of_ble_eq_true rfl) dX6_writeTrain_110 ⟨Nat.zero_le _, Nat.zero_le _⟩ ?_
  refine z_aload_n C dX6_writeTrain_113 0 rfl ?_
  refine z_aload_n C dX6_writeTrain_114 0 rfl ?_
  refine zm_get_outputMany C hin (x := (wNum (upN ((wNum (upN ((wNum (upN ((wNum (ot, 0) (nw ((65 + 5 * t) + 2))).1) ((wNum (ot, 0) (nw ((65 + 5 * t) + 2))).2) 58, (wNum (ot, 0) (nw ((65 + 5 * t) + 2))).2 + 1) (nw ((65 + 5 * t) + 3))).1) ((wNum (upN ((wNum (ot, 0) (nw ((65 + 5 * t) + 2))).1) ((wNum (ot, 0) (nw ((65 + 5 * t) + 2))).2) 58, (wNum (ot, 0) (nw ((65 + 5 * t) + 2))).2 + 1) (nw ((65 + 5 * t) + 3))).2) 47, (wNum (upN ((wNum (ot, 0) (nw ((65 + 5 * t) + 2))).1) ((wNum (ot, 0) (nw ((65 + 5 * t) + 2))).2) 58, (wNum (ot, 0) (nw ((65 + 5 * t) + 2))).2 + 1) (nw ((65 + 5 * t) + 3))).2 + 1) (nw ((5 + 6 * (nw ((65 + 5 * t) + 2))) + 0))).1) ((wNum (upN ((wNum (upN ((wNum (ot, 0) (nw ((65 + 5 * t) + 2))).1) ((wNum (ot, 0) (nw ((65 + 5 * t) + 2))).2) 58, (wNum (ot, 0) (nw ((65 + 5 * t) + 2))).2 + 1) (nw ((65 + 5 * t) + 3))).1) ((wNum (upN ((wNum (ot, 0) (nw ((65 + 5 * t) + 2))).1) ((wNum (ot, 0) (nw ((65 + 5 * t) + 2))).2) 58, (wNum (ot, 0) (nw ((65 + 5 * t) + 2))).2 + 1) (nw ((65 + 5 * t) + 3))).2) 47, (wNum (upN ((wNum (ot, 0) (nw ((65 + 5 * t) + 2))).1) ((wNum (ot, 0) (nw ((65 + 5 * t) + 2))).2) 58, (wNum (ot, 0) (nw ((65 + 5 * t) + 2))).2 + 1) (nw ((65 + 5 * t) + 3))).2 + 1) (nw ((5 + 6 * (nw ((65 + 5 * t) + 2))) + 0))).2) 32, (wNum (upN ((wNum (upN ((wNum (ot, 0) (nw ((65 + 5 * t) + 2))).1) ((wNum (ot, 0) (nw ((65 + 5 * t) + 2))).2) 58, (wNum (ot, 0) (nw ((65 + 5 * t) + 2))).2 + 1) (nw ((65 + 5 * t) + 3))).1) ((wNum (upN ((wNum (ot, 0) (nw ((65 + 5 * t) + 2))).1) ((wNum (ot, 0) (nw ((65 + 5 * t) + 2))).2) 58, (wNum (ot, 0) (nw ((65 + 5 * t) + 2))).2 + 1) (nw ((65 + 5 * t) + 3))).2) 47, (wNum (upN ((wNum (ot, 0) (nw ((65 + 5 * t) + 2))).1) ((wNum (ot, 0) (nw ((65 + 5 * t) + 2))).2) 58, (wNum (ot, 0) (nw ((65 + 5 * t) + 2))).2 + 1) (nw ((65 + 5 * t) + 3))).2 + 1) (nw ((5 + 6 * (nw ((65 + 5 * t) + 2))) + 0))).2 + 1) (nw ((65 + 5 * t) + 0))).2 + 1) k239 dX6_writeTrain_115 rfl ?_
  refine zm_call C (mX6_told l D κ Ad _ _ _ _ _ _ _ _ (nI ((wNum (upN ((wNum (upN ((wNum (upN ((wNum (ot, 0) (nw ((65 + 5 * t) + 2))).1) ((wNum (ot, 0) (nw ((65 + 5 * t) + 2))).2) 58, (wNum (ot, 0) (nw ((65 + 5 * t) + 2))).2 + 1) (nw ((65 + 5 * t) + 3))).1) ((wNum (upN ((wNum (ot, 0) (nw ((65 + 5 * t) + 2))).1) ((wNum (ot, 0) (nw ((65 + 5 * t) + 2))).2) 58, (wNum (ot, 0) (nw ((65 + 5 * t) + 2))).2 + 1) (nw ((65 + 5 * t) + 3))).2) 47, (wNum (upN ((wNum (ot, 0) (nw ((65 + 5 * t) + 2))).1) ((wNum (ot, 0) (nw ((65 + 5 * t) + 2))).2) 58, (wNum (ot, 0) (nw ((65 + 5 * t) + 2))).2 + 1) (nw ((65 + 5 * t) + 3))).2 + 1) (nw ((5 + 6 * (nw ((65 + 5 * t) + 2))) + 0))).1) ((wNum (upN ((wNum (upN ((wNum (ot, 0) (nw ((65 + 5 * t) + 2))).1) ((wNum (ot, 0) (nw ((65 + 5 * t) + 2))).2) 58, (wNum (ot, 0) (nw ((65 + 5 * t) + 2))).2 + 1) (nw ((65 + 5 * t) + 3))).1) ((wNum (upN ((wNum (ot, 0) (nw ((65 + 5 * t) + 2))).1) ((wNum (ot, 0) (nw ((65 + 5 * t) + 2))).2) 58, (wNum (ot, 0) (nw ((65 + 5 * t) + 2))).2 + 1) (nw ((65 + 5 * t) + 3))).2) 47, (wNum (upN ((wNum (ot, 0) (nw ((65 + 5 * t) + 2))).1) ((wNum (ot, 0) (nw ((65 + 5 * t) + 2))).2) 58, (wNum (ot, 0) (nw ((65 + 5 * t) + 2))).2 + 1) (nw ((65 + 5 * t) + 3))).2 + 1) (nw ((5 + 6 * (nw ((65 + 5 * t) + 2))) + 0))).2) 32, (wNum (upN ((wNum (upN ((wNum (ot, 0) (nw ((65 + 5 * t) + 2))).1) ((wNum (ot, 0) (nw ((65 + 5 * t) + 2))).2) 58, (wNum (ot, 0) (nw ((65 + 5 * t) + 2))).2 + 1) (nw ((65 + 5 * t) + 3))).1) ((wNum (upN ((wNum (ot, 0) (nw ((65 + 5 * t) + 2))).1) ((wNum (ot, 0) (nw ((65 + 5 * t) + 2))).2) 58, (wNum (ot, 0) (nw ((65 + 5 * t) + 2))).2 + 1) (nw ((65 + 5 * t) + 3))).2) 47, (wNum (upN ((wNum (ot, 0) (nw ((65 + 5 * t) + 2))).1) ((wNum (ot, 0) (nw ((65 + 5 * t) + 2))).2) 58, (wNum (ot, 0) (nw ((65 + 5 * t) + 2))).2 + 1) (nw ((65 + 5 * t) + 3))).2 + 1) (nw ((5 + 6 * (nw ((65 + 5 * t) + 2))) + 0))).2 + 1) (nw ((65 + 5 * t) + 0))).2 + 1))) gX6_writeTrain_X6_told rfl rfl rfl hdX6_told ⟨Nat.le_of_ble_eq_true rfl, Nat.le_of_ble_eq_true rfl⟩ rfl (Nat.le_of_ble_eq_true rfl) dX6_writeTrain_118 ⟨Nat.zero_le _, Nat.zero_le _⟩ ?_
  exact z_iret C hr hk () (rfl) trivial (List.Perm.of_eq rfl) dX6_writeTrain_121 (Nat.le_refl _) (Nat.le_refl _)
set_option maxRecDepth 100000 in
set_option maxHeartbeats 4000000 in
theorem mX6_outputByte_no (l : Launch) (D : va_G) (κ : Nat → ClassId) (Ad : Nat → Nat) (eo : Int32) (ip : Nat → Int32) (v nw aw od sv ot : Nat → Nat) (M : Nat) (x : Int32) (hB : Bd M nw) (hx : isB (v 11) x = false) : mM l yX6_outputByte wsX6_outputByte { frames := 1, cells := 0, slots := 0, locals := 22 } D κ Ad [.int (x)] eo ip v nw aw od sv ot (some (.int (nI 0))) eo ip (upN v 1 1) nw aw od sv ot := by
  refine zM_of (cc := cX6_outputByte) (maxL := 2) (rt := (some .int)) [(0, .ref (Ad 0)), (1, .int (x))] (by decide +kernel) rfl (Nat.le_of_ble_eq_true rfl) rfl ?_
  intro p e s m args below meth c A C hr hk hnm
  have C : zC p s m args c cX6_outputByte 2 wsX6_outputByte RX6 D (zTy κ) A := C
  have hin : ∀ w ∈ wsX60, w ∈ wsX6_outputByte := fun w h => List.mem_cons_of_mem _ (List.mem_append_right _ h)
  have k239 : Cond.fieldLink RX6 239 "PeatRailwayModel" "outputMany" "I" ∈ wsX6_outputByte := by decide +kernel
  have k29 : Cond.fieldLink RX6 29 "PeatRailwayModel" "output" "[B" ∈ wsX6_outputByte := by decide +kernel
  obtain ⟨hM1, hM2, ht0, hnb, hnt, hj, hp⟩ := id hB
  refine z_iload_n C dX6_outputByte_0 1 rfl ?_
  refine z_iconst (v := nI 0) C dX6_outputByte_1 (by decide) ?_
  refine z_aload_n C dX6_outputByte_2 0 rfl ?_
  refine zm_get_outputMany C hin (x := v 11) k239 dX6_outputByte_3 rfl ?_
  refine z_iconst (v := nI 1) C dX6_outputByte_6 (by decide) ?_
  refine z_isub C dX6_outputByte_7 ?_
  refine zs_call C (mX6_in_no l D κ (x) (nI 0) ((nI (v 11) - nI 1)) hx) gX6_outputByte_X6_in rfl rfl rfl hdX6_in ⟨Nat.le_of_ble_eq_true rfl, Nat.le_of_ble_eq_true rfl⟩ rfl (Nat.le_of_ble_eq_true rfl) dX6_outputByte_8 ⟨Nat.zero_le _, Nat.zero_le _⟩ ?_
  refine zb_if_ne C 20 dX6_outputByte_11 (by decide) (fun q => absurd q (by decide)) (fun _ => ?_)
  refine z_aload_n C dX6_outputByte_14 0 rfl ?_
  refine z_iconst (v := nI 1) C dX6_outputByte_15 (by decide) ?_
  refine zm_call C (mX6_refuse l D κ Ad _ _ _ _ _ _ _ _ 1) gX6_outputByte_X6_refuse rfl rfl rfl hdX6_refuse ⟨Nat.le_of_ble_eq_true rfl, Nat.le_of_ble_eq_true rfl⟩ rfl (Nat.le_of_ble_eq_true rfl) dX6_outputByte_16 ⟨Nat.zero_le _, Nat.zero_le _⟩ ?_
  exact z_iret C hr hk () (rfl) trivial (List.Perm.of_eq rfl) dX6_outputByte_19 (Nat.le_refl _) (Nat.le_refl _)
theorem hdX6_outputByte : yX6_outputByte.cls = RX6 ∧ yX6_outputByte.cls ≠ "java/lang/invoke/MethodHandle" ∧ yX6_outputByte.cls ≠ "java/lang/invoke/VarHandle" ∧ (parseMethodDescriptor yX6_outputByte.desc).map (fun d => d.parameters.length) = some 1 := by decide +kernel
set_option maxRecDepth 100000 in
set_option maxHeartbeats 4000000 in
theorem mX6_outputByte_ok (l : Launch) (D : va_G) (κ : Nat → ClassId) (Ad : Nat → Nat) (eo : Int32) (ip : Nat → Int32) (v nw aw od sv ot : Nat → Nat) (M : Nat) (k : Nat) (hB : Bd M nw) (hk0 : k < v 11) (hv : v 11 ≤ 200) : mM l yX6_outputByte wsX6_outputByte { frames := 1, cells := 0, slots := 0, locals := 22 } D κ Ad [.int (nI k)] eo ip v nw aw od sv ot (some (.int (nI (ot k)))) eo ip (upN v 1 0) nw aw od sv ot := by
  refine zM_of (cc := cX6_outputByte) (maxL := 2) (rt := (some .int)) [(0, .ref (Ad 0)), (1, .int (nI k))] (by decide +kernel) rfl (Nat.le_of_ble_eq_true rfl) rfl ?_
  intro p e s m args below meth c A C hr hk hnm
  have C : zC p s m args c cX6_outputByte 2 wsX6_outputByte RX6 D (zTy κ) A := C
  have hin : ∀ w ∈ wsX60, w ∈ wsX6_outputByte := fun w h => List.mem_cons_of_mem _ (List.mem_append_right _ h)
  have k239 : Cond.fieldLink RX6 239 "PeatRailwayModel" "outputMany" "I" ∈ wsX6_outputByte := by decide +kernel
  have k29 : Cond.fieldLink RX6 29 "PeatRailwayModel" "output" "[B" ∈ wsX6_outputByte := by decide +kernel
  obtain ⟨hM1, hM2, ht0, hnb, hnt, hj, hp⟩ := id hB
  refine z_iload_n C dX6_outputByte_0 1 rfl ?_
  refine z_iconst (v := nI 0) C dX6_outputByte_1 (by decide) ?_
  refine z_aload_n C dX6_outputByte_2 0 rfl ?_
  refine zm_get_outputMany C hin (x := v 11) k239 dX6_outputByte_3 rfl ?_
  refine z_iconst (v := nI 1) C dX6_outputByte_6 (by decide) ?_
  refine zn_isub C dX6_outputByte_7 (by omega) ?_
  refine zs_call C (mX6_in_yes l D κ k 0 ((v 11) - 1) (by omega) (by omega) (by omega)) gX6_outputByte_X6_in rfl rfl rfl hdX6_in ⟨Nat.le_of_ble_eq_true rfl, Nat.le_of_ble_eq_true rfl⟩ rfl (Nat.le_of_ble_eq_true rfl) dX6_outputByte_8 ⟨Nat.zero_le _, Nat.zero_le _⟩ ?_
  refine zb_if_ne C 20 dX6_outputByte_11 (by decide) (fun _ => ?_) (fun q => absurd q (by decide))
  refine z_aload_n C dX6_outputByte_20 0 rfl ?_
  refine z_aload_n C dX6_outputByte_21 0 rfl ?_
  refine zm_get_output C hin k29 dX6_outputByte_22 ?_
  refine z_iload_n C dX6_outputByte_25 1 rfl ?_
  refine zm_ald_output C (by omega) dX6_outputByte_26 ?_
  refine zm_call C (mX6_told l D κ Ad _ _ _ _ _ _ _ _ (nI (ot k))) gX6_outputByte_X6_told rfl rfl rfl hdX6_told ⟨Nat.le_of_ble_eq_true rfl, Nat.le_of_ble_eq_true rfl⟩ rfl (Nat.le_of_ble_eq_true rfl) dX6_outputByte_27 ⟨Nat.zero_le _, Nat.zero_le _⟩ ?_
  exact z_iret C hr hk () (rfl) trivial (List.Perm.of_eq rfl) dX6_outputByte_30 (Nat.le_refl _) (Nat.le_refl _)
end M9
