section M14
set_option maxRecDepth 100000 in
set_option maxHeartbeats 4000000 in
theorem mX6_readsTicks (l : Launch) (D : va_G) (κ : Nat → ClassId) (Ad : Nat → Nat) (eo : Int32) (ip : Nat → Int32) (v nw aw od sv ot : Nat → Nat) (M : Nat) (n : Nat) (T : Tok) (hB : Bd M nw) (hT : TV ip n v T) (hn : n ≤ 600) (h0 : v 19 = 0) (h99 : nw 0 ≤ 9999) (hM3 : M + 1100 < 1073741824) : mVN l yX6_readsTicks wsX6_readsTicks { frames := 7, cells := 0, slots := 0, locals := 154 } D κ Ad [] eo ip v nw aw od sv ot (fun v9 n9 => (∃ c9 o9, pTicks ip n nw T = .inl (c9, o9) ∧ v9 19 = c9 ∧ v9 20 = o9 ∧ 0 < c9 ∧ c9 ≤ 5 ∧ Fz v v9) ∨ (∃ T9, pTicks ip n nw T = .inr (n9, T9) ∧ v9 19 = 0 ∧ TV ip n v9 T9 ∧ Fz v v9)) := by
  refine zM_of (cc := cX6_readsTicks) (maxL := 4) (rt := none) [(0, .ref (Ad 0))] (by decide +kernel) rfl (Nat.le_of_ble_eq_true rfl) rfl ?_
  intro p e s m args below meth c A C hr hk hnm
  have C : zC p s m args c cX6_readsTicks 4 wsX6_readsTicks RX6 D (zTy κ) A := C
  have hin : ∀ w ∈ wsX60, w ∈ wsX6_readsTicks := fun w h => List.mem_cons_of_mem _ (List.mem_append_right _ h)
  have k13 : Cond.fieldLink RX6 13 "PeatRailwayModel" "now" "[I" ∈ wsX6_readsTicks := by decide +kernel
  have k129 : Cond.fieldLink RX6 129 "PeatRailwayModel" "fault" "I" ∈ wsX6_readsTicks := by decide +kernel
  obtain ⟨hM1, hM2, ht0, hnb, hnt, hj, hp⟩ := id hB
  refine z_aload_n C dX6_readsTicks_0 0 rfl ?_
  refine zm_callV C (mX6_next l D κ Ad _ _ _ _ _ _ _ _ n T hT hn) gX6_readsTicks_X6_next rfl rfl rfl hdX6_next ⟨Nat.le_of_ble_eq_true rfl, Nat.le_of_ble_eq_true rfl⟩ rfl (Nat.le_of_ble_eq_true rfl) dX6_readsTicks_1 ⟨Nat.zero_le _, Nat.zero_le _⟩ (fun v1 hv1 => ?_)
  obtain ⟨hT1, hf1, ho1, hz1⟩ := hv1
  have h91 : v1 19 = 0 := by omega
  refine z_sipush (v := nI 9999) C dX6_readsTicks_4 (by decide) ?_
  refine z_aload_n C dX6_readsTicks_7 0 rfl ?_
  refine zm_get_now C hin k13 dX6_readsTicks_8 ?_
  refine z_iconst (v := nI 0) C dX6_readsTicks_11 (by decide) ?_
  refine zm_ald_now C (by omega) dX6_readsTicks_12 ?_
  refine zn_isub C dX6_readsTicks_13 (by omega) ?_
  refine z_istore_n C [(1, .int (nI (9999 - (nw 0)))), (0, .ref (Ad 0))] dX6_readsTicks_14 (by decide) rfl ?_
  refine z_aload_n C dX6_readsTicks_15 1 rfl ?_
  refine z_iconst (v := nI 1) C dX6_readsTicks_16 (by decide) ?_
  refine z_iload_n C dX6_readsTicks_17 0 rfl ?_
  refine z_bipush (v := nI 99) C dX6_readsTicks_18 (by decide) ?_
  refine zn_icmp_ge C 27 dX6_readsTicks_20 (by decide) (by omega) (by omega) (fun h1 => ?_) (fun h2 => ?_)
  · refine z_bipush (v := nI 99) C dX6_readsTicks_27 (by decide) ?_
    refine zm_callVx C (mX6_takesNumber_0 l D κ Ad _ _ _ _ _ _ _ _ n (nxT ip n T) 1 (nI 99) (99 + 1) hT1 hn (show v1 19 = 0 by omega) (hh_lit (by omega) (by omega) rfl)) gX6_readsTicks_X6_takesNumber rfl rfl rfl hdX6_takesNumber ⟨Nat.le_of_ble_eq_true rfl, Nat.le_of_ble_eq_true rfl⟩ rfl (Nat.le_of_ble_eq_true rfl) dX6_readsTicks_29 ⟨Nat.zero_le _, Nat.zero_le _⟩ (fun v2 x2 hv2 => ?_)
    rcases hv2 with ⟨c2, o2, hp2, h92, h82, hc2, hd2, hz2, hl2⟩ | ⟨hp2, h92, hT2, hz2⟩
    · refine z_istore_n C [(2, .int (nI x2)), (1, .int (nI (9999 - (nw 0)))), (0, .ref (Ad 0))] dX6_readsTicks_32 (by decide) rfl ?_
      refine z_aload_n C dX6_readsTicks_33 2 rfl ?_
      refine z_aload_n C dX6_readsTicks_34 2 rfl ?_
      refine zm_get_fault C hin (x := v2 19) k129 dX6_readsTicks_35 rfl ?_
      refine zn_if_ne C 45 dX6_readsTicks_38 (by decide) (by omega) (fun _ => ?_) (fun q => absurd q (by omega))
      refine z_iconst (v := nI 0) C dX6_readsTicks_45 (by decide) ?_
      refine zm_call C (mX6_passes l D κ Ad _ _ _ _ _ _ _ _ M 0 hB (by omega)) gX6_readsTicks_X6_passes rfl rfl rfl hdX6_passes ⟨Nat.le_of_ble_eq_true rfl, Nat.le_of_ble_eq_true rfl⟩ rfl (Nat.le_of_ble_eq_true rfl) dX6_readsTicks_46 ⟨Nat.zero_le _, Nat.zero_le _⟩ ?_
      refine z_istore_n C [(3, .int (nI (psE 0 nw))), (2, .int (nI x2)), (1, .int (nI (9999 - (nw 0)))), (0, .ref (Ad 0))] dX6_readsTicks_49 (by decide) rfl ?_
      exact z_vret C hr hk (v2, psS 0 nw) rfl (Or.inl ⟨c2, o2, by simp only [pTicks]; rw [if_neg (by omega), hp2, bdS_l], h92, h82, hc2, hd2, (((Fz.rf v).tr hz1).tr hz2)⟩) (List.Perm.of_eq rfl) dX6_readsTicks_50 (Nat.le_refl _) (Nat.le_refl _)
    · have hlt := pNum_lt hp2
      refine z_istore_n C [(2, .int (nI x2)), (1, .int (nI (9999 - (nw 0)))), (0, .ref (Ad 0))] dX6_readsTicks_32 (by decide) rfl ?_
      refine z_aload_n C dX6_readsTicks_33 2 rfl ?_
      refine z_aload_n C dX6_readsTicks_34 2 rfl ?_
      refine zm_get_fault C hin (x := v2 19) k129 dX6_readsTicks_35 rfl ?_
      refine zn_if_ne C 45 dX6_readsTicks_38 (by decide) (by omega) (fun q => absurd q (by omega)) (fun _ => ?_)
      refine z_iload_n C dX6_readsTicks_41 0 rfl ?_
      refine z_goto (tgt := 46) C dX6_readsTicks_42 (by decide) ?_
      refine zm_call C (mX6_passes l D κ Ad _ _ _ _ _ _ _ _ M x2 hB (by omega)) gX6_readsTicks_X6_passes rfl rfl rfl hdX6_passes ⟨Nat.le_of_ble_eq_true rfl, Nat.le_of_ble_eq_true rfl⟩ rfl (Nat.le_of_ble_eq_true rfl) dX6_readsTicks_46 ⟨Nat.zero_le _, Nat.zero_le _⟩ ?_
      refine z_istore_n C [(3, .int (nI (psE x2 nw))), (2, .int (nI x2)), (1, .int (nI (9999 - (nw 0)))), (0, .ref (Ad 0))] dX6_readsTicks_49 (by decide) rfl ?_
      exact z_vret C hr hk (v2, psS x2 nw) rfl (Or.inr ⟨nxT ip n (nxT ip n T), by simp only [pTicks]; rw [if_neg (by omega), hp2, bdS_r], h92, hT2, (((Fz.rf v).tr hz1).tr hz2)⟩) (List.Perm.of_eq rfl) dX6_readsTicks_50 (Nat.le_refl _) (Nat.le_refl _)
  · refine z_iload_n C dX6_readsTicks_23 0 rfl ?_
    refine z_goto (tgt := 29) C dX6_readsTicks_24 (by decide) ?_
    refine zm_callVx C (mX6_takesNumber_0 l D κ Ad _ _ _ _ _ _ _ _ n (nxT ip n T) 1 (nI (9999 - (nw 0))) (9999 - (nw 0) + 1) hT1 hn (show v1 19 = 0 by omega) (hh_lit (by omega) (by omega) rfl)) gX6_readsTicks_X6_takesNumber rfl rfl rfl hdX6_takesNumber ⟨Nat.le_of_ble_eq_true rfl, Nat.le_of_ble_eq_true rfl⟩ rfl (Nat.le_of_ble_eq_true rfl) dX6_readsTicks_29 ⟨Nat.zero_le _, Nat.zero_le _⟩ (fun v3 x3 hv3 => ?_)
    rcases hv3 with ⟨c3, o3, hp3, h93, h83, hc3, hd3, hz3, hl3⟩ | ⟨hp3, h93, hT3, hz3⟩
    · refine z_istore_n C [(2, .int (nI x3)), (1, .int (nI (9999 - (nw 0)))), (0, .ref (Ad 0))] dX6_readsTicks_32 (by decide) rfl ?_
      refine z_aload_n C dX6_readsTicks_33 2 rfl ?_
      refine z_aload_n C dX6_readsTicks_34 2 rfl ?_
      refine zm_get_fault C hin (x := v3 19) k129 dX6_readsTicks_35 rfl ?_
      refine zn_if_ne C 45 dX6_readsTicks_38 (by decide) (by omega) (fun _ => ?_) (fun q => absurd q (by omega))
      refine z_iconst (v := nI 0) C dX6_readsTicks_45 (by decide) ?_
      refine zm_call C (mX6_passes l D κ Ad _ _ _ _ _ _ _ _ M 0 hB (by omega)) gX6_readsTicks_X6_passes rfl rfl rfl hdX6_passes ⟨Nat.le_of_ble_eq_true rfl, Nat.le_of_ble_eq_true rfl⟩ rfl (Nat.le_of_ble_eq_true rfl) dX6_readsTicks_46 ⟨Nat.zero_le _, Nat.zero_le _⟩ ?_
      refine z_istore_n C [(3, .int (nI (psE 0 nw))), (2, .int (nI x3)), (1, .int (nI (9999 - (nw 0)))), (0, .ref (Ad 0))] dX6_readsTicks_49 (by decide) rfl ?_
      exact z_vret C hr hk (v3, psS 0 nw) rfl (Or.inl ⟨c3, o3, by simp only [pTicks]; rw [if_pos (by omega), hp3, bdS_l], h93, h83, hc3, hd3, (((Fz.rf v).tr hz1).tr hz3)⟩) (List.Perm.of_eq rfl) dX6_readsTicks_50 (Nat.le_refl _) (Nat.le_refl _)
    · have hlt := pNum_lt hp3
      refine z_istore_n C [(2, .int (nI x3)), (1, .int (nI (9999 - (nw 0)))), (0, .ref (Ad 0))] dX6_readsTicks_32 (by decide) rfl ?_
      refine z_aload_n C dX6_readsTicks_33 2 rfl ?_
      refine z_aload_n C dX6_readsTicks_34 2 rfl ?_
      refine zm_get_fault C hin (x := v3 19) k129 dX6_readsTicks_35 rfl ?_
      refine zn_if_ne C 45 dX6_readsTicks_38 (by decide) (by omega) (fun q => absurd q (by omega)) (fun _ => ?_)
      refine z_iload_n C dX6_readsTicks_41 0 rfl ?_
      refine z_goto (tgt := 46) C dX6_readsTicks_42 (by decide) ?_
      refine zm_call C (mX6_passes l D κ Ad _ _ _ _ _ _ _ _ M x3 hB (by omega)) gX6_readsTicks_X6_passes rfl rfl rfl hdX6_passes ⟨Nat.le_of_ble_eq_true rfl, Nat.le_of_ble_eq_true rfl⟩ rfl (Nat.le_of_ble_eq_true rfl) dX6_readsTicks_46 ⟨Nat.zero_le _, Nat.zero_le _⟩ ?_
      refine z_istore_n C [(3, .int (nI (psE x3 nw))), (2, .int (nI x3)), (1, .int (nI (9999 - (nw 0)))), (0, .ref (Ad 0))] dX6_readsTicks_49 (by decide) rfl ?_
      exact z_vret C hr hk (v3, psS x3 nw) rfl (Or.inr ⟨nxT ip n (nxT ip n T), by simp only [pTicks]; rw [if_pos (by omega), hp3, bdS_r], h93, hT3, (((Fz.rf v).tr hz1).tr hz3)⟩) (List.Perm.of_eq rfl) dX6_readsTicks_50 (Nat.le_refl _) (Nat.le_refl _)
theorem hdX6_readsTicks : yX6_readsTicks.cls = RX6 ∧ yX6_readsTicks.cls ≠ "java/lang/invoke/MethodHandle" ∧ yX6_readsTicks.cls ≠ "java/lang/invoke/VarHandle" ∧ (parseMethodDescriptor yX6_readsTicks.desc).map (fun d => d.parameters.length) = some 0 := by decide +kernel
set_option maxRecDepth 100000 in
set_option maxHeartbeats 4000000 in
theorem mX6_readsLine (l : Launch) (D : va_G) (κ : Nat → ClassId) (Ad : Nat → Nat) (eo : Int32) (ip : Nat → Int32) (v nw aw od sv ot : Nat → Nat) (M : Nat) (n : Nat) (T : Tok) (hB : Bd M nw) (hT : TV ip n v T) (hn : n ≤ 600) (h0 : v 19 = 0) (h99 : nw 0 ≤ 9999) (hM3 : M + 1100 < 1073741824) : mVN l yX6_readsLine wsX6_readsLine { frames := 8, cells := 0, slots := 0, locals := 177 } D κ Ad [] eo ip v nw aw od sv ot (fun v9 n9 => (∃ c9 o9, pLine ip n nw T = .inl (c9, o9) ∧ v9 19 = c9 ∧ v9 20 = o9 ∧ 0 < c9 ∧ c9 ≤ 5 ∧ Fz v v9) ∨ (∃ T9, pLine ip n nw T = .inr (n9, T9) ∧ v9 19 = 0 ∧ TV ip n v9 T9 ∧ Fz v v9)) := by
  refine zM_of (cc := cX6_readsLine) (maxL := 1) (rt := none) [(0, .ref (Ad 0))] (by decide +kernel) rfl (Nat.le_of_ble_eq_true rfl) rfl ?_
  intro p e s m args below meth c A C hr hk hnm
  have C : zC p s m args c cX6_readsLine 1 wsX6_readsLine RX6 D (zTy κ) A := C
  obtain ⟨hM1, hM2, ht0, hnb, hnt, hj, hp⟩ := id hB
  refine z_aload_n C dX6_readsLine_0 0 rfl ?_
  refine z_iconst (v := nI 1) C dX6_readsLine_1 (by decide) ?_
  refine zm_call C (mX6_isKey l D κ Ad _ _ _ _ _ _ _ _ 1 n T (by omega) hT hn) gX6_readsLine_X6_isKey rfl rfl rfl hdX6_isKey ⟨Nat.le_of_ble_eq_true rfl, Nat.le_of_ble_eq_true rfl⟩ rfl (Nat.le_of_ble_eq_true rfl) dX6_readsLine_2 ⟨Nat.zero_le _, Nat.zero_le _⟩ ?_
  refine zb_if_eq C 15 dX6_readsLine_5 (by decide) (fun h1 => ?_) (fun h2 => ?_)
  · refine z_aload_n C dX6_readsLine_15 0 rfl ?_
    refine z_iconst (v := nI 3) C dX6_readsLine_16 (by decide) ?_
    refine zm_call C (mX6_isKey l D κ Ad _ _ _ _ _ _ _ _ 3 n T (by omega) hT hn) gX6_readsLine_X6_isKey rfl rfl rfl hdX6_isKey ⟨Nat.le_of_ble_eq_true rfl, Nat.le_of_ble_eq_true rfl⟩ rfl (Nat.le_of_ble_eq_true rfl) dX6_readsLine_17 ⟨Nat.zero_le _, Nat.zero_le _⟩ ?_
    refine zb_if_eq C 30 dX6_readsLine_20 (by decide) (fun h3 => ?_) (fun h4 => ?_)
    · refine z_aload_n C dX6_readsLine_30 0 rfl ?_
      refine z_iconst (v := nI 4) C dX6_readsLine_31 (by decide) ?_
      refine zm_call C (mX6_isKey l D κ Ad _ _ _ _ _ _ _ _ 4 n T (by omega) hT hn) gX6_readsLine_X6_isKey rfl rfl rfl hdX6_isKey ⟨Nat.le_of_ble_eq_true rfl, Nat.le_of_ble_eq_true rfl⟩ rfl (Nat.le_of_ble_eq_true rfl) dX6_readsLine_32 ⟨Nat.zero_le _, Nat.zero_le _⟩ ?_
      refine zb_if_eq C 45 dX6_readsLine_35 (by decide) (fun h5 => ?_) (fun h6 => ?_)
      · refine z_aload_n C dX6_readsLine_45 0 rfl ?_
        refine z_iconst (v := nI 5) C dX6_readsLine_46 (by decide) ?_
        refine zm_call C (mX6_isKey l D κ Ad _ _ _ _ _ _ _ _ 5 n T (by omega) hT hn) gX6_readsLine_X6_isKey rfl rfl rfl hdX6_isKey ⟨Nat.le_of_ble_eq_true rfl, Nat.le_of_ble_eq_true rfl⟩ rfl (Nat.le_of_ble_eq_true rfl) dX6_readsLine_47 ⟨Nat.zero_le _, Nat.zero_le _⟩ ?_
        refine zb_if_eq C 60 dX6_readsLine_50 (by decide) (fun h7 => ?_) (fun h8 => ?_)
        · refine z_aload_n C dX6_readsLine_60 0 rfl ?_
          refine z_bipush (v := nI 6) C dX6_readsLine_61 (by decide) ?_
          refine zm_call C (mX6_isKey l D κ Ad _ _ _ _ _ _ _ _ 6 n T (by omega) hT hn) gX6_readsLine_X6_isKey rfl rfl rfl hdX6_isKey ⟨Nat.le_of_ble_eq_true rfl, Nat.le_of_ble_eq_true rfl⟩ rfl (Nat.le_of_ble_eq_true rfl) dX6_readsLine_63 ⟨Nat.zero_le _, Nat.zero_le _⟩ ?_
          refine zb_if_eq C 76 dX6_readsLine_66 (by decide) (fun h9 => ?_) (fun h10 => ?_)
          · refine z_aload_n C dX6_readsLine_76 0 rfl ?_
            refine z_bipush (v := nI 7) C dX6_readsLine_77 (by decide) ?_
            refine zm_call C (mX6_isKey l D κ Ad _ _ _ _ _ _ _ _ 7 n T (by omega) hT hn) gX6_readsLine_X6_isKey rfl rfl rfl hdX6_isKey ⟨Nat.le_of_ble_eq_true rfl, Nat.le_of_ble_eq_true rfl⟩ rfl (Nat.le_of_ble_eq_true rfl) dX6_readsLine_79 ⟨Nat.zero_le _, Nat.zero_le _⟩ ?_
            refine zb_if_eq C 92 dX6_readsLine_82 (by decide) (fun h11 => ?_) (fun h12 => ?_)
            · refine z_aload_n C dX6_readsLine_92 0 rfl ?_
              refine z_iconst (v := nI 1) C dX6_readsLine_93 (by decide) ?_
              refine zm_call C (mX6_errs_0 l D κ Ad _ _ _ _ _ _ _ _ 1 (show v 19 = 0 by omega)) gX6_readsLine_X6_errs rfl rfl rfl hdX6_errs ⟨Nat.le_of_ble_eq_true rfl, Nat.le_of_ble_eq_true rfl⟩ rfl (Nat.le_of_ble_eq_true rfl) dX6_readsLine_94 ⟨Nat.zero_le _, Nat.zero_le _⟩ ?_
              exact z_vret C hr hk (upN (upN v 19 1) 20 (v 16), nw) rfl (Or.inl ⟨1, T.2.1, by simp only [pLine]; rw [if_neg (by rw [h1]; decide), if_neg (by rw [h3]; decide), if_neg (by rw [h5]; decide), if_neg (by rw [h7]; decide), if_neg (by rw [h9]; decide), if_neg (by rw [h11]; decide)], rfl, hT.2.2.1, by decide, by decide, ((Fz.rf v).tr (((Fz.rf v).up (by decide)).up (by decide)))⟩) (List.Perm.of_eq rfl) dX6_readsLine_97 (Nat.le_refl _) (Nat.le_refl _)
            · refine z_aload_n C dX6_readsLine_85 0 rfl ?_
              refine zm_callVN C (mX6_readsTicks l D κ Ad _ _ _ _ _ _ _ _ M n T hB hT hn (show v 19 = 0 by omega) (by omega) (by omega)) gX6_readsLine_X6_readsTicks rfl rfl rfl hdX6_readsTicks ⟨Nat.le_of_ble_eq_true rfl, Nat.le_of_ble_eq_true rfl⟩ rfl (Nat.le_of_ble_eq_true rfl) dX6_readsLine_86 ⟨Nat.zero_le _, Nat.zero_le _⟩ (fun v1 n1 hv1 => ?_)
              refine z_goto (tgt := 97) C dX6_readsLine_89 (by decide) ?_
              exact z_vret C hr hk (v1, n1) rfl (by simp only [pLine]; rw [if_neg (by rw [h1]; decide), if_neg (by rw [h3]; decide), if_neg (by rw [h5]; decide), if_neg (by rw [h7]; decide), if_neg (by rw [h9]; decide), if_pos h12]; exact hv1) (List.Perm.of_eq rfl) dX6_readsLine_97 (Nat.le_refl _) (Nat.le_refl _)
          · refine z_aload_n C dX6_readsLine_69 0 rfl ?_
            refine zm_callVN C (mX6_readsRepair l D κ Ad _ _ _ _ _ _ _ _ M n T hB hT hn (show v 19 = 0 by omega)) gX6_readsLine_X6_readsRepair rfl rfl rfl hdX6_readsRepair ⟨Nat.le_of_ble_eq_true rfl, Nat.le_of_ble_eq_true rfl⟩ rfl (Nat.le_of_ble_eq_true rfl) dX6_readsLine_70 ⟨Nat.zero_le _, Nat.zero_le _⟩ (fun v2 n2 hv2 => ?_)
            refine z_goto (tgt := 97) C dX6_readsLine_73 (by decide) ?_
            exact z_vret C hr hk (v2, n2) rfl (by simp only [pLine]; rw [if_neg (by rw [h1]; decide), if_neg (by rw [h3]; decide), if_neg (by rw [h5]; decide), if_neg (by rw [h7]; decide), if_pos h10]; exact hv2) (List.Perm.of_eq rfl) dX6_readsLine_97 (Nat.le_refl _) (Nat.le_refl _)
        · refine z_aload_n C dX6_readsLine_53 0 rfl ?_
          refine zm_callVN C (mX6_readsDanger l D κ Ad _ _ _ _ _ _ _ _ M n T hB hT hn (show v 19 = 0 by omega)) gX6_readsLine_X6_readsDanger rfl rfl rfl hdX6_readsDanger ⟨Nat.le_of_ble_eq_true rfl, Nat.le_of_ble_eq_true rfl⟩ rfl (Nat.le_of_ble_eq_true rfl) dX6_readsLine_54 ⟨Nat.zero_le _, Nat.zero_le _⟩ (fun v3 n3 hv3 => ?_)
          refine z_goto (tgt := 97) C dX6_readsLine_57 (by decide) ?_
          exact z_vret C hr hk (v3, n3) rfl (by simp only [pLine]; rw [if_neg (by rw [h1]; decide), if_neg (by rw [h3]; decide), if_neg (by rw [h5]; decide), if_pos h8]; exact hv3) (List.Perm.of_eq rfl) dX6_readsLine_97 (Nat.le_refl _) (Nat.le_refl _)
      · refine z_aload_n C dX6_readsLine_38 0 rfl ?_
        refine zm_callVN C (mX6_readsPull l D κ Ad _ _ _ _ _ _ _ _ M n T hB hT hn (show v 19 = 0 by omega)) gX6_readsLine_X6_readsPull rfl rfl rfl hdX6_readsPull ⟨Nat.le_of_ble_eq_true rfl, Nat.le_of_ble_eq_true rfl⟩ rfl (Nat.le_of_ble_eq_true rfl) dX6_readsLine_39 ⟨Nat.zero_le _, Nat.zero_le _⟩ (fun v4 n4 hv4 => ?_)
        refine z_goto (tgt := 97) C dX6_readsLine_42 (by decide) ?_
        exact z_vret C hr hk (v4, n4) rfl (by simp only [pLine]; rw [if_neg (by rw [h1]; decide), if_neg (by rw [h3]; decide), if_pos h6]; exact hv4) (List.Perm.of_eq rfl) dX6_readsLine_97 (Nat.le_refl _) (Nat.le_refl _)
    · refine z_aload_n C dX6_readsLine_23 0 rfl ?_
      refine zm_callVN C (mX6_readsTrain l D κ Ad _ _ _ _ _ _ _ _ M n T hB hT hn (show v 19 = 0 by omega)) gX6_readsLine_X6_readsTrain rfl rfl rfl hdX6_readsTrain ⟨Nat.le_of_ble_eq_true rfl, Nat.le_of_ble_eq_true rfl⟩ rfl (Nat.le_of_ble_eq_true rfl) dX6_readsLine_24 ⟨Nat.zero_le _, Nat.zero_le _⟩ (fun v5 n5 hv5 => ?_)
      refine z_goto (tgt := 97) C dX6_readsLine_27 (by decide) ?_
      exact z_vret C hr hk (v5, n5) rfl (by simp only [pLine]; rw [if_neg (by rw [h1]; decide), if_pos h4]; exact hv5) (List.Perm.of_eq rfl) dX6_readsLine_97 (Nat.le_refl _) (Nat.le_refl _)
  · refine z_aload_n C dX6_readsLine_8 0 rfl ?_
    refine zm_callVN C (mX6_readsBlock l D κ Ad _ _ _ _ _ _ _ _ M n T hB hT hn (show v 19 = 0 by omega)) gX6_readsLine_X6_readsBlock rfl rfl rfl hdX6_readsBlock ⟨Nat.le_of_ble_eq_true rfl, Nat.le_of_ble_eq_true rfl⟩ rfl (Nat.le_of_ble_eq_true rfl) dX6_readsLine_9 ⟨Nat.zero_le _, Nat.zero_le _⟩ (fun v6 n6 hv6 => ?_)
    refine z_goto (tgt := 97) C dX6_readsLine_12 (by decide) ?_
    exact z_vret C hr hk (v6, n6) rfl (by simp only [pLine]; rw [if_pos h2]; exact hv6) (List.Perm.of_eq rfl) dX6_readsLine_97 (Nat.le_refl _) (Nat.le_refl _)
theorem hdX6_readsLine : yX6_readsLine.cls = RX6 ∧ yX6_readsLine.cls ≠ "java/lang/invoke/MethodHandle" ∧ yX6_readsLine.cls ≠ "java/lang/invoke/VarHandle" ∧ (parseMethodDescriptor yX6_readsLine.desc).map (fun d => d.parameters.length) = some 0 := by decide +kernel
end M14
