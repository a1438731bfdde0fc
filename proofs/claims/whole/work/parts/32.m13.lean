section M13
set_option maxRecDepth 100000 in
set_option maxHeartbeats 4000000 in
theorem mX6_readsBlock (l : Launch) (D : va_G) (κ : Nat → ClassId) (Ad : Nat → Nat) (eo : Int32) (ip : Nat → Int32) (v nw aw od sv ot : Nat → Nat) (M : Nat) (n : Nat) (T : Tok) (hB : Bd M nw) (hT : TV ip n v T) (hn : n ≤ 600) (h0 : v 19 = 0) : mVN l yX6_readsBlock wsX6_readsBlock { frames := 5, cells := 0, slots := 0, locals := 106 } D κ Ad [] eo ip v nw aw od sv ot (fun v9 n9 => (∃ c9 o9, pBlock ip n nw T = .inl (c9, o9) ∧ v9 19 = c9 ∧ v9 20 = o9 ∧ 0 < c9 ∧ c9 ≤ 5 ∧ Fz v v9) ∨ (∃ T9, pBlock ip n nw T = .inr (n9, T9) ∧ v9 19 = 0 ∧ TV ip n v9 T9 ∧ Fz v v9)) := by
  refine zM_of (cc := cX6_readsBlock) (maxL := 5) (rt := none) [(0, .ref (Ad 0))] (by decide +kernel) rfl (Nat.le_of_ble_eq_true rfl) rfl ?_
  intro p e s m args below meth c A C hr hk hnm
  have C : zC p s m args c cX6_readsBlock 5 wsX6_readsBlock RX6 D (zTy κ) A := C
  have hin : ∀ w ∈ wsX60, w ∈ wsX6_readsBlock := fun w h => List.mem_cons_of_mem _ (List.mem_append_right _ h)
  have k13 : Cond.fieldLink RX6 13 "PeatRailwayModel" "now" "[I" ∈ wsX6_readsBlock := by decide +kernel
  have k129 : Cond.fieldLink RX6 129 "PeatRailwayModel" "fault" "I" ∈ wsX6_readsBlock := by decide +kernel
  obtain ⟨hM1, hM2, ht0, hnb, hnt, hj, hp⟩ := id hB
  refine z_aload_n C dX6_readsBlock_0 0 rfl ?_
  refine zm_get_now C hin k13 dX6_readsBlock_1 ?_
  refine z_iconst (v := nI 1) C dX6_readsBlock_4 (by decide) ?_
  refine zm_ald_now C (by omega) dX6_readsBlock_5 ?_
  refine z_bipush (v := nI 10) C dX6_readsBlock_6 (by decide) ?_
  refine zn_icmp_ne C 17 dX6_readsBlock_8 (by decide) (by omega) (by omega) (fun h1 => ?_) (fun h2 => ?_)
  · refine z_aload_n C dX6_readsBlock_17 0 rfl ?_
    refine zm_callV C (mX6_next l D κ Ad _ _ _ _ _ _ _ _ n T hT hn) gX6_readsBlock_X6_next rfl rfl rfl hdX6_next ⟨Nat.le_of_ble_eq_true rfl, Nat.le_of_ble_eq_true rfl⟩ rfl (Nat.le_of_ble_eq_true rfl) dX6_readsBlock_18 ⟨Nat.zero_le _, Nat.zero_le _⟩ (fun v1 hv1 => ?_)
    obtain ⟨hT1, hf1, ho1, hz1⟩ := hv1
    have h91 : v1 19 = 0 := by omega
    refine z_aload_n C dX6_readsBlock_21 0 rfl ?_
    refine z_iconst (v := nI 1) C dX6_readsBlock_22 (by decide) ?_
    refine z_bipush (v := nI 20) C dX6_readsBlock_23 (by decide) ?_
    refine zm_callVx C (mX6_takesNumber_0 l D κ Ad _ _ _ _ _ _ _ _ n (nxT ip n T) 1 (nI 20) 21 hT1 hn (show v1 19 = 0 by omega) (hh_lit (by decide) (by decide) rfl)) gX6_readsBlock_X6_takesNumber rfl rfl rfl hdX6_takesNumber ⟨Nat.le_of_ble_eq_true rfl, Nat.le_of_ble_eq_true rfl⟩ rfl (Nat.le_of_ble_eq_true rfl) dX6_readsBlock_25 ⟨Nat.zero_le _, Nat.zero_le _⟩ (fun v2 x2 hv2 => ?_)
    rcases hv2 with ⟨c2, o2, hp2, h92, h82, hc2, hd2, hz2, hl2⟩ | ⟨hp2, h92, hT2, hz2⟩
    · refine z_istore_n C [(1, .int (nI x2)), (0, .ref (Ad 0))] dX6_readsBlock_28 (by decide) rfl ?_
      refine z_aload_n C dX6_readsBlock_29 1 rfl ?_
      refine z_iconst (v := nI 0) C dX6_readsBlock_30 (by decide) ?_
      refine z_bipush (v := nI 9) C dX6_readsBlock_31 (by decide) ?_
      refine zm_call C (mX6_takesNumber_1 l D κ Ad _ _ _ _ _ _ _ _ 0 (nI 9) (show 0 < v2 19 by omega) (show v2 19 ≤ 5 by omega)) gX6_readsBlock_X6_takesNumber rfl rfl rfl hdX6_takesNumber ⟨Nat.le_of_ble_eq_true rfl, Nat.le_of_ble_eq_true rfl⟩ rfl (Nat.le_of_ble_eq_true rfl) dX6_readsBlock_33 ⟨Nat.zero_le _, Nat.zero_le _⟩ ?_
      refine z_istore_n C [(2, .int (nI 0)), (1, .int (nI x2)), (0, .ref (Ad 0))] dX6_readsBlock_36 (by decide) rfl ?_
      refine z_aload_n C dX6_readsBlock_37 2 rfl ?_
      refine zm_get_fault C hin (x := v2 19) k129 dX6_readsBlock_38 rfl ?_
      refine zn_if_ne C 56 dX6_readsBlock_41 (by decide) (by omega) (fun _ => ?_) (fun q => absurd q (by omega))
      refine z_iconst (v := nI 0) C dX6_readsBlock_56 (by decide) ?_
      refine z_istore_n C [(3, .int (nI 0)), (2, .int (nI 0)), (1, .int (nI x2)), (0, .ref (Ad 0))] dX6_readsBlock_57 (by decide) rfl ?_
      refine z_iconst (v := nI 5) C dX6_readsBlock_58 (by decide) ?_
      refine z_istore C [(4, .int (nI 5)), (3, .int (nI 0)), (2, .int (nI 0)), (1, .int (nI x2)), (0, .ref (Ad 0))] dX6_readsBlock_59 (by decide) rfl ?_
      refine z_iload_n C dX6_readsBlock_61 1 rfl ?_
      refine z_iconst (v := nI 1) C dX6_readsBlock_62 (by decide) ?_
      refine zn_icmp_ne C 78 dX6_readsBlock_63 (by decide) (by decide) (by decide) (fun _ => ?_) (fun q => absurd q (by decide))
      refine z_aload_n C dX6_readsBlock_78 4 rfl ?_
      refine zm_get_fault C hin (x := v2 19) k129 dX6_readsBlock_79 rfl ?_
      refine zn_if_ne C 94 dX6_readsBlock_82 (by decide) (by omega) (fun _ => ?_) (fun q => absurd q (by omega))
      exact z_vret C hr hk (v2, nw) rfl (Or.inl ⟨c2, o2, by simp only [pBlock]; rw [if_neg h1, hp2, bdS_l], h92, h82, hc2, hd2, (((Fz.rf v).tr hz1).tr hz2)⟩) (List.Perm.of_eq rfl) dX6_readsBlock_94 (Nat.le_refl _) (Nat.le_refl _)
    · refine z_istore_n C [(1, .int (nI x2)), (0, .ref (Ad 0))] dX6_readsBlock_28 (by decide) rfl ?_
      refine z_aload_n C dX6_readsBlock_29 1 rfl ?_
      refine z_iconst (v := nI 0) C dX6_readsBlock_30 (by decide) ?_
      refine z_bipush (v := nI 9) C dX6_readsBlock_31 (by decide) ?_
      refine zm_callVx C (mX6_takesNumber_0 l D κ Ad _ _ _ _ _ _ _ _ n (nxT ip n (nxT ip n T)) 0 (nI 9) 10 hT2 hn (show v2 19 = 0 by omega) (hh_lit (by decide) (by decide) rfl)) gX6_readsBlock_X6_takesNumber rfl rfl rfl hdX6_takesNumber ⟨Nat.le_of_ble_eq_true rfl, Nat.le_of_ble_eq_true rfl⟩ rfl (Nat.le_of_ble_eq_true rfl) dX6_readsBlock_33 ⟨Nat.zero_le _, Nat.zero_le _⟩ (fun v3 x3 hv3 => ?_)
      rcases hv3 with ⟨c3, o3, hp3, h93, h83, hc3, hd3, hz3, hl3⟩ | ⟨hp3, h93, hT3, hz3⟩
      · refine z_istore_n C [(2, .int (nI x3)), (1, .int (nI x2)), (0, .ref (Ad 0))] dX6_readsBlock_36 (by decide) rfl ?_
        refine z_aload_n C dX6_readsBlock_37 2 rfl ?_
        refine zm_get_fault C hin (x := v3 19) k129 dX6_readsBlock_38 rfl ?_
        refine zn_if_ne C 56 dX6_readsBlock_41 (by decide) (by omega) (fun _ => ?_) (fun q => absurd q (by omega))
        refine z_iconst (v := nI 0) C dX6_readsBlock_56 (by decide) ?_
        refine z_istore_n C [(3, .int (nI 0)), (2, .int (nI x3)), (1, .int (nI x2)), (0, .ref (Ad 0))] dX6_readsBlock_57 (by decide) rfl ?_
        refine z_iconst (v := nI 5) C dX6_readsBlock_58 (by decide) ?_
        refine z_istore C [(4, .int (nI 5)), (3, .int (nI 0)), (2, .int (nI x3)), (1, .int (nI x2)), (0, .ref (Ad 0))] dX6_readsBlock_59 (by decide) rfl ?_
        refine z_iload_n C dX6_readsBlock_61 1 rfl ?_
        refine z_iconst (v := nI 1) C dX6_readsBlock_62 (by decide) ?_
        refine zn_icmp_ne C 78 dX6_readsBlock_63 (by decide) (by decide) (by decide) (fun _ => ?_) (fun q => absurd q (by decide))
        refine z_aload_n C dX6_readsBlock_78 4 rfl ?_
        refine zm_get_fault C hin (x := v3 19) k129 dX6_readsBlock_79 rfl ?_
        refine zn_if_ne C 94 dX6_readsBlock_82 (by decide) (by omega) (fun _ => ?_) (fun q => absurd q (by omega))
        exact z_vret C hr hk (v3, nw) rfl (Or.inl ⟨c3, o3, by simp only [pBlock]; rw [if_neg h1, hp2, bdS_r, hp3, bdS_l], h93, h83, hc3, hd3, ((((Fz.rf v).tr hz1).tr hz2).tr hz3)⟩) (List.Perm.of_eq rfl) dX6_readsBlock_94 (Nat.le_refl _) (Nat.le_refl _)
      · refine z_istore_n C [(2, .int (nI x3)), (1, .int (nI x2)), (0, .ref (Ad 0))] dX6_readsBlock_36 (by decide) rfl ?_
        refine z_aload_n C dX6_readsBlock_37 2 rfl ?_
        refine zm_get_fault C hin (x := v3 19) k129 dX6_readsBlock_38 rfl ?_
        refine zn_if_ne C 56 dX6_readsBlock_41 (by decide) (by omega) (fun q => absurd q (by omega)) (fun _ => ?_)
        refine z_aload_n C dX6_readsBlock_44 2 rfl ?_
        refine z_iconst (v := nI 2) C dX6_readsBlock_45 (by decide) ?_
        refine zm_call C (mX6_isKey l D κ Ad _ _ _ _ _ _ _ _ 2 n (nxT ip n (nxT ip n (nxT ip n T))) (by omega) hT3 hn) gX6_readsBlock_X6_isKey rfl rfl rfl hdX6_isKey ⟨Nat.le_of_ble_eq_true rfl, Nat.le_of_ble_eq_true rfl⟩ rfl (Nat.le_of_ble_eq_true rfl) dX6_readsBlock_46 ⟨Nat.zero_le _, Nat.zero_le _⟩ ?_
        refine zb_if_eq C 56 dX6_readsBlock_49 (by decide) (fun h3 => ?_) (fun h4 => ?_)
        · refine z_iconst (v := nI 0) C dX6_readsBlock_56 (by decide) ?_
          refine z_istore_n C [(3, .int (nI 0)), (2, .int (nI x3)), (1, .int (nI x2)), (0, .ref (Ad 0))] dX6_readsBlock_57 (by decide) rfl ?_
          refine z_iconst (v := nI 5) C dX6_readsBlock_58 (by decide) ?_
          refine z_istore C [(4, .int (nI 5)), (3, .int (nI 0)), (2, .int (nI x3)), (1, .int (nI x2)), (0, .ref (Ad 0))] dX6_readsBlock_59 (by decide) rfl ?_
          refine z_iload_n C dX6_readsBlock_61 1 rfl ?_
          refine z_iconst (v := nI 1) C dX6_readsBlock_62 (by decide) ?_
          refine zn_icmp_ne C 78 dX6_readsBlock_63 (by decide) (by decide) (by decide) (fun _ => ?_) (fun q => absurd q (by decide))
          refine z_aload_n C dX6_readsBlock_78 4 rfl ?_
          refine zm_get_fault C hin (x := v3 19) k129 dX6_readsBlock_79 rfl ?_
          refine zn_if_ne C 94 dX6_readsBlock_82 (by decide) (by omega) (fun q => absurd q (by omega)) (fun _ => ?_)
          refine z_aload_n C dX6_readsBlock_85 4 rfl ?_
          refine z_iload_n C dX6_readsBlock_86 3 rfl ?_
          refine z_iload_n C dX6_readsBlock_87 2 rfl ?_
          refine z_iload C dX6_readsBlock_88 0 rfl ?_
          refine z_iload_n C dX6_readsBlock_90 1 rfl ?_
          refine zm_call C (mX6_lays l D κ Ad _ _ _ _ _ _ _ _ x2 x3 5 0 M hB (by omega)) gX6_readsBlock_X6_lays rfl rfl rfl hdX6_lays ⟨Nat.le_of_ble_eq_true rfl, Nat.le_of_ble_eq_true rfl⟩ rfl (Nat.le_of_ble_eq_true rfl) dX6_readsBlock_91 ⟨Nat.zero_le _, Nat.zero_le _⟩ ?_
          exact z_vret C hr hk (v3, layS nw x2 x3 5 0) rfl (Or.inr ⟨nxT ip n (nxT ip n (nxT ip n T)), by simp only [pBlock]; rw [if_neg h1, hp2, bdS_r, hp3, bdS_r, if_neg (by rw [h3]; decide)], h93, hT3, ((((Fz.rf v).tr hz1).tr hz2).tr hz3)⟩) (List.Perm.of_eq rfl) dX6_readsBlock_94 (Nat.le_refl _) (Nat.le_refl _)
        · refine z_iconst (v := nI 1) C dX6_readsBlock_52 (by decide) ?_
          refine z_goto (tgt := 57) C dX6_readsBlock_53 (by decide) ?_
          refine z_istore_n C [(3, .int (nI 1)), (2, .int (nI x3)), (1, .int (nI x2)), (0, .ref (Ad 0))] dX6_readsBlock_57 (by decide) rfl ?_
          refine z_iconst (v := nI 5) C dX6_readsBlock_58 (by decide) ?_
          refine z_istore C [(4, .int (nI 5)), (3, .int (nI 1)), (2, .int (nI x3)), (1, .int (nI x2)), (0, .ref (Ad 0))] dX6_readsBlock_59 (by decide) rfl ?_
          refine z_iload_n C dX6_readsBlock_61 1 rfl ?_
          refine z_iconst (v := nI 1) C dX6_readsBlock_62 (by decide) ?_
          refine zn_icmp_ne C 78 dX6_readsBlock_63 (by decide) (by decide) (by decide) (fun q => absurd q (by decide)) (fun _ => ?_)
          refine z_aload_n C dX6_readsBlock_66 4 rfl ?_
          refine zm_callV C (mX6_next l D κ Ad _ _ _ _ _ _ _ _ n (nxT ip n (nxT ip n (nxT ip n T))) hT3 hn) gX6_readsBlock_X6_next rfl rfl rfl hdX6_next ⟨Nat.le_of_ble_eq_true rfl, Nat.le_of_ble_eq_true rfl⟩ rfl (Nat.le_of_ble_eq_true rfl) dX6_readsBlock_67 ⟨Nat.zero_le _, Nat.zero_le _⟩ (fun v4 hv4 => ?_)
          obtain ⟨hT4, hf4, ho4, hz4⟩ := hv4
          have h94 : v4 19 = 0 := by omega
          refine z_aload_n C dX6_readsBlock_70 4 rfl ?_
          refine z_iconst (v := nI 1) C dX6_readsBlock_71 (by decide) ?_
          refine z_iconst (v := nI 5) C dX6_readsBlock_72 (by decide) ?_
          refine zm_callVx C (mX6_takesNumber_0 l D κ Ad _ _ _ _ _ _ _ _ n (nxT ip n (nxT ip n (nxT ip n (nxT ip n T)))) 1 (nI 5) 6 hT4 hn (show v4 19 = 0 by omega) (hh_lit (by decide) (by decide) rfl)) gX6_readsBlock_X6_takesNumber rfl rfl rfl hdX6_takesNumber ⟨Nat.le_of_ble_eq_true rfl, Nat.le_of_ble_eq_true rfl⟩ rfl (Nat.le_of_ble_eq_true rfl) dX6_readsBlock_73 ⟨Nat.zero_le _, Nat.zero_le _⟩ (fun v5 x5 hv5 => ?_)
          rcases hv5 with ⟨c5, o5, hp5, h95, h85, hc5, hd5, hz5, hl5⟩ | ⟨hp5, h95, hT5, hz5⟩
          · refine z_istore C [(4, .int (nI x5)), (3, .int (nI 1)), (2, .int (nI x3)), (1, .int (nI x2)), (0, .ref (Ad 0))] dX6_readsBlock_76 (by decide) rfl ?_
            refine z_aload_n C dX6_readsBlock_78 4 rfl ?_
            refine zm_get_fault C hin (x := v5 19) k129 dX6_readsBlock_79 rfl ?_
            refine zn_if_ne C 94 dX6_readsBlock_82 (by decide) (by omega) (fun _ => ?_) (fun q => absurd q (by omega))
            exact z_vret C hr hk (v5, nw) rfl (Or.inl ⟨c5, o5, by simp only [pBlock]; rw [if_neg h1, hp2, bdS_r, hp3, bdS_r, if_pos h4, hp5, bdS_l], h95, h85, hc5, hd5, ((((((Fz.rf v).tr hz1).tr hz2).tr hz3).tr hz4).tr hz5)⟩) (List.Perm.of_eq rfl) dX6_readsBlock_94 (Nat.le_refl _) (Nat.le_refl _)
          · refine z_istore C [(4, .int (nI x5)), (3, .int (nI 1)), (2, .int (nI x3)), (1, .int (nI x2)), (0, .ref (Ad 0))] dX6_readsBlock_76 (by decide) rfl ?_
            refine z_aload_n C dX6_readsBlock_78 4 rfl ?_
            refine zm_get_fault C hin (x := v5 19) k129 dX6_readsBlock_79 rfl ?_
            refine zn_if_ne C 94 dX6_readsBlock_82 (by decide) (by omega) (fun q => absurd q (by omega)) (fun _ => ?_)
            refine z_aload_n C dX6_readsBlock_85 4 rfl ?_
            refine z_iload_n C dX6_readsBlock_86 3 rfl ?_
            refine z_iload_n C dX6_readsBlock_87 2 rfl ?_
            refine z_iload C dX6_readsBlock_88 0 rfl ?_
            refine z_iload_n C dX6_readsBlock_90 1 rfl ?_
            refine zm_call C (mX6_lays l D κ Ad _ _ _ _ _ _ _ _ x2 x3 x5 1 M hB (by omega)) gX6_readsBlock_X6_lays rfl rfl rfl hdX6_lays ⟨Nat.le_of_ble_eq_true rfl, Nat.le_of_ble_eq_true rfl⟩ rfl (Nat.le_of_ble_eq_true rfl) dX6_readsBlock_91 ⟨Nat.zero_le _, Nat.zero_le _⟩ ?_
            exact z_vret C hr hk (v5, layS nw x2 x3 x5 1) rfl (Or.inr ⟨nxT ip n (nxT ip n (nxT ip n (nxT ip n (nxT ip n T)))), by simp only [pBlock]; rw [if_neg h1, hp2, bdS_r, hp3, bdS_r, if_pos h4, hp5, bdS_r], h95, hT5, ((((((Fz.rf v).tr hz1).tr hz2).tr hz3).tr hz4).tr hz5)⟩) (List.Perm.of_eq rfl) dX6_readsBlock_94 (Nat.le_refl _) (Nat.le_refl _)
  · refine z_aload_n C dX6_readsBlock_11 0 rfl ?_
    refine z_iconst (v := nI 4) C dX6_readsBlock_12 (by decide) ?_
    refine zm_call C (mX6_errs_0 l D κ Ad _ _ _ _ _ _ _ _ 4 (show v 19 = 0 by omega)) gX6_readsBlock_X6_errs rfl rfl rfl hdX6_errs ⟨Nat.le_of_ble_eq_true rfl, Nat.le_of_ble_eq_true rfl⟩ rfl (Nat.le_of_ble_eq_true rfl) dX6_readsBlock_13 ⟨Nat.zero_le _, Nat.zero_le _⟩ ?_
    exact z_vret C hr hk (upN (upN v 19 4) 20 (v 16), nw) rfl (Or.inl ⟨4, T.2.1, by simp only [pBlock]; rw [if_pos h2], rfl, hT.2.2.1, by decide, by decide, ((Fz.rf v).tr (((Fz.rf v).up (by decide)).up (by decide)))⟩) (List.Perm.of_eq rfl) dX6_readsBlock_16 (Nat.le_refl _) (Nat.le_refl _)
theorem hdX6_readsBlock : yX6_readsBlock.cls = RX6 ∧ yX6_readsBlock.cls ≠ "java/lang/invoke/MethodHandle" ∧ yX6_readsBlock.cls ≠ "java/lang/invoke/VarHandle" ∧ (parseMethodDescriptor yX6_readsBlock.desc).map (fun d => d.parameters.length) = some 0 := by decide +kernel
set_option maxRecDepth 100000 in
set_option maxHeartbeats 4000000 in
theorem mX6_readsTrain (l : Launch) (D : va_G) (κ : Nat → ClassId) (Ad : Nat → Nat) (eo : Int32) (ip : Nat → Int32) (v nw aw od sv ot : Nat → Nat) (M : Nat) (n : Nat) (T : Tok) (hB : Bd M nw) (hT : TV ip n v T) (hn : n ≤ 600) (h0 : v 19 = 0) : mVN l yX6_readsTrain wsX6_readsTrain { frames := 5, cells := 0, slots := 0, locals := 106 } D κ Ad [] eo ip v nw aw od sv ot (fun v9 n9 => (∃ c9 o9, pTrain ip n nw T = .inl (c9, o9) ∧ v9 19 = c9 ∧ v9 20 = o9 ∧ 0 < c9 ∧ c9 ≤ 5 ∧ Fz v v9) ∨ (∃ T9, pTrain ip n nw T = .inr (n9, T9) ∧ v9 19 = 0 ∧ TV ip n v9 T9 ∧ Fz v v9)) := by
  refine zM_of (cc := cX6_readsTrain) (maxL := 4) (rt := none) [(0, .ref (Ad 0))] (by decide +kernel) rfl (Nat.le_of_ble_eq_true rfl) rfl ?_
  intro p e s m args below meth c A C hr hk hnm
  have C : zC p s m args c cX6_readsTrain 4 wsX6_readsTrain RX6 D (zTy κ) A := C
  have hin : ∀ w ∈ wsX60, w ∈ wsX6_readsTrain := fun w h => List.mem_cons_of_mem _ (List.mem_append_right _ h)
  have k13 : Cond.fieldLink RX6 13 "PeatRailwayModel" "now" "[I" ∈ wsX6_readsTrain := by decide +kernel
  have k129 : Cond.fieldLink RX6 129 "PeatRailwayModel" "fault" "I" ∈ wsX6_readsTrain := by decide +kernel
  obtain ⟨hM1, hM2, ht0, hnb, hnt, hj, hp⟩ := id hB
  refine z_aload_n C dX6_readsTrain_0 0 rfl ?_
  refine zm_get_now C hin k13 dX6_readsTrain_1 ?_
  refine z_iconst (v := nI 2) C dX6_readsTrain_4 (by decide) ?_
  refine zm_ald_now C (by omega) dX6_readsTrain_5 ?_
  refine z_iconst (v := nI 5) C dX6_readsTrain_6 (by decide) ?_
  refine zn_icmp_ne C 16 dX6_readsTrain_7 (by decide) (by omega) (by omega) (fun h1 => ?_) (fun h2 => ?_)
  · refine z_aload_n C dX6_readsTrain_16 0 rfl ?_
    refine zm_callV C (mX6_next l D κ Ad _ _ _ _ _ _ _ _ n T hT hn) gX6_readsTrain_X6_next rfl rfl rfl hdX6_next ⟨Nat.le_of_ble_eq_true rfl, Nat.le_of_ble_eq_true rfl⟩ rfl (Nat.le_of_ble_eq_true rfl) dX6_readsTrain_17 ⟨Nat.zero_le _, Nat.zero_le _⟩ (fun v1 hv1 => ?_)
    obtain ⟨hT1, hf1, ho1, hz1⟩ := hv1
    have h91 : v1 19 = 0 := by omega
    refine z_aload_n C dX6_readsTrain_20 0 rfl ?_
    refine zm_callVx C (mX6_blockHere l D κ Ad _ _ _ _ _ _ _ _ M n (nxT ip n T) hB hT1 hn (show v1 19 = 0 by omega)) gX6_readsTrain_X6_blockHere rfl rfl rfl hdX6_blockHere ⟨Nat.le_of_ble_eq_true rfl, Nat.le_of_ble_eq_true rfl⟩ rfl (Nat.le_of_ble_eq_true rfl) dX6_readsTrain_21 ⟨Nat.zero_le _, Nat.zero_le _⟩ (fun v2 x2 hv2 => ?_)
    rcases hv2 with ⟨c2, hp2, he2, hc2, hd2, hl2⟩ | ⟨hp2, he2⟩
    · have h92 : v2 19 = c2 := by rw [he2]; rfl
      have h82 : v2 20 = (nxT ip n T).2.1 := by rw [he2]; exact hT1.2.2.1
      have hz2 : Fz v1 v2 := by rw [he2]; exact ((Fz.rf v1).up (by decide)).up (by decide)
      refine z_istore_n C [(1, .int (nI x2)), (0, .ref (Ad 0))] dX6_readsTrain_24 (by decide) rfl ?_
      refine z_aload_n C dX6_readsTrain_25 1 rfl ?_
      refine zm_get_fault C hin (x := v2 19) k129 dX6_readsTrain_26 rfl ?_
      refine zn_if_ne C 45 dX6_readsTrain_29 (by decide) (by omega) (fun _ => ?_) (fun q => absurd q (by omega))
      refine z_aload_n C dX6_readsTrain_45 1 rfl ?_
      refine zm_call C (mX6_goesOn_1 l D κ Ad _ _ _ _ _ _ _ _ (show 0 < v2 19 by omega) (show v2 19 ≤ 5 by omega)) gX6_readsTrain_X6_goesOn rfl rfl rfl hdX6_goesOn ⟨Nat.le_of_ble_eq_true rfl, Nat.le_of_ble_eq_true rfl⟩ rfl (Nat.le_of_ble_eq_true rfl) dX6_readsTrain_46 ⟨Nat.zero_le _, Nat.zero_le _⟩ ?_
      refine z_aload_n C dX6_readsTrain_49 1 rfl ?_
      refine z_iconst (v := nI 1) C dX6_readsTrain_50 (by decide) ?_
      refine z_bipush (v := nI 12) C dX6_readsTrain_51 (by decide) ?_
      refine zm_call C (mX6_takesNumber_1 l D κ Ad _ _ _ _ _ _ _ _ 1 (nI 12) (show 0 < v2 19 by omega) (show v2 19 ≤ 5 by omega)) gX6_readsTrain_X6_takesNumber rfl rfl rfl hdX6_takesNumber ⟨Nat.le_of_ble_eq_true rfl, Nat.le_of_ble_eq_true rfl⟩ rfl (Nat.le_of_ble_eq_true rfl) dX6_readsTrain_53 ⟨Nat.zero_le _, Nat.zero_le _⟩ ?_
      refine z_istore_n C [(2, .int (nI 1)), (1, .int (nI x2)), (0, .ref (Ad 0))] dX6_readsTrain_56 (by decide) rfl ?_
      refine z_aload_n C dX6_readsTrain_57 2 rfl ?_
      refine z_iconst (v := nI 1) C dX6_readsTrain_58 (by decide) ?_
      refine z_iconst (v := nI 5) C dX6_readsTrain_59 (by decide) ?_
      refine zm_call C (mX6_takesNumber_1 l D κ Ad _ _ _ _ _ _ _ _ 1 (nI 5) (show 0 < v2 19 by omega) (show v2 19 ≤ 5 by omega)) gX6_readsTrain_X6_takesNumber rfl rfl rfl hdX6_takesNumber ⟨Nat.le_of_ble_eq_true rfl, Nat.le_of_ble_eq_true rfl⟩ rfl (Nat.le_of_ble_eq_true rfl) dX6_readsTrain_60 ⟨Nat.zero_le _, Nat.zero_le _⟩ ?_
      refine z_istore_n C [(3, .int (nI 1)), (2, .int (nI 1)), (1, .int (nI x2)), (0, .ref (Ad 0))] dX6_readsTrain_63 (by decide) rfl ?_
      refine z_aload_n C dX6_readsTrain_64 3 rfl ?_
      refine zm_get_fault C hin (x := v2 19) k129 dX6_readsTrain_65 rfl ?_
      refine zn_if_ne C 78 dX6_readsTrain_68 (by decide) (by omega) (fun _ => ?_) (fun q => absurd q (by omega))
      exact z_vret C hr hk (v2, nw) rfl (Or.inl ⟨c2, (nxT ip n T).2.1, by simp only [pTrain]; rw [if_neg h1, hp2, bdS_l], h92, h82, hc2, hd2, (((Fz.rf v).tr hz1).tr hz2)⟩) (List.Perm.of_eq rfl) dX6_readsTrain_78 (Nat.le_refl _) (Nat.le_refl _)
    · obtain rfl : v1 = v2 := he2.symm
      have hlt : x2 < nw 1 := pNum_lt hp2
      refine z_istore_n C [(1, .int (nI x2)), (0, .ref (Ad 0))] dX6_readsTrain_24 (by decide) rfl ?_
      refine z_aload_n C dX6_readsTrain_25 1 rfl ?_
      refine zm_get_fault C hin (x := v1 19) k129 dX6_readsTrain_26 rfl ?_
      refine zn_if_ne C 45 dX6_readsTrain_29 (by decide) (by omega) (fun q => absurd q (by omega)) (fun _ => ?_)
      refine z_aload_n C dX6_readsTrain_32 1 rfl ?_
      refine z_iload_n C dX6_readsTrain_33 0 rfl ?_
      refine zm_call C (mX6_isOccupied l D κ Ad _ _ _ _ _ _ _ _ M x2 hB (by omega)) gX6_readsTrain_X6_isOccupied rfl rfl rfl hdX6_isOccupied ⟨Nat.le_of_ble_eq_true rfl, Nat.le_of_ble_eq_true rfl⟩ rfl (Nat.le_of_ble_eq_true rfl) dX6_readsTrain_34 ⟨Nat.zero_le _, Nat.zero_le _⟩ ?_
      refine zb_if_eq C 45 dX6_readsTrain_37 (by decide) (fun h3 => ?_) (fun h4 => ?_)
      · refine z_aload_n C dX6_readsTrain_45 1 rfl ?_
        refine zm_callV C (mX6_goesOn_0 l D κ Ad _ _ _ _ _ _ _ _ n (nxT ip n T) hT1 hn (show v1 19 = 0 by omega)) gX6_readsTrain_X6_goesOn rfl rfl rfl hdX6_goesOn ⟨Nat.le_of_ble_eq_true rfl, Nat.le_of_ble_eq_true rfl⟩ rfl (Nat.le_of_ble_eq_true rfl) dX6_readsTrain_46 ⟨Nat.zero_le _, Nat.zero_le _⟩ (fun v3 hv3 => ?_)
        obtain ⟨hT3, hf3, ho3, hz3⟩ := hv3
        have h93 : v3 19 = 0 := by omega
        refine z_aload_n C dX6_readsTrain_49 1 rfl ?_
        refine z_iconst (v := nI 1) C dX6_readsTrain_50 (by decide) ?_
        refine z_bipush (v := nI 12) C dX6_readsTrain_51 (by decide) ?_
        refine zm_callVx C (mX6_takesNumber_0 l D κ Ad _ _ _ _ _ _ _ _ n (nxT ip n (nxT ip n T)) 1 (nI 12) 13 hT3 hn (show v3 19 = 0 by omega) (hh_lit (by decide) (by decide) rfl)) gX6_readsTrain_X6_takesNumber rfl rfl rfl hdX6_takesNumber ⟨Nat.le_of_ble_eq_true rfl, Nat.le_of_ble_eq_true rfl⟩ rfl (Nat.le_of_ble_eq_true rfl) dX6_readsTrain_53 ⟨Nat.zero_le _, Nat.zero_le _⟩ (fun v4 x4 hv4 => ?_)
        rcases hv4 with ⟨c4, o4, hp4, h94, h84, hc4, hd4, hz4, hl4⟩ | ⟨hp4, h94, hT4, hz4⟩
        · refine z_istore_n C [(2, .int (nI x4)), (1, .int (nI x2)), (0, .ref (Ad 0))] dX6_readsTrain_56 (by decide) rfl ?_
          refine z_aload_n C dX6_readsTrain_57 2 rfl ?_
          refine z_iconst (v := nI 1) C dX6_readsTrain_58 (by decide) ?_
          refine z_iconst (v := nI 5) C dX6_readsTrain_59 (by decide) ?_
          refine zm_call C (mX6_takesNumber_1 l D κ Ad _ _ _ _ _ _ _ _ 1 (nI 5) (show 0 < v4 19 by omega) (show v4 19 ≤ 5 by omega)) gX6_readsTrain_X6_takesNumber rfl rfl rfl hdX6_takesNumber ⟨Nat.le_of_ble_eq_true rfl, Nat.le_of_ble_eq_true rfl⟩ rfl (Nat.le_of_ble_eq_true rfl) dX6_readsTrain_60 ⟨Nat.zero_le _, Nat.zero_le _⟩ ?_
          refine z_istore_n C [(3, .int (nI 1)), (2, .int (nI x4)), (1, .int (nI x2)), (0, .ref (Ad 0))] dX6_readsTrain_63 (by decide) rfl ?_
          refine z_aload_n C dX6_readsTrain_64 3 rfl ?_
          refine zm_get_fault C hin (x := v4 19) k129 dX6_readsTrain_65 rfl ?_
          refine zn_if_ne C 78 dX6_readsTrain_68 (by decide) (by omega) (fun _ => ?_) (fun q => absurd q (by omega))
          exact z_vret C hr hk (v4, nw) rfl (Or.inl ⟨c4, o4, by simp only [pTrain]; rw [if_neg h1, hp2, bdS_r, if_neg (by rw [h3]; decide), hp4, bdS_l], h94, h84, hc4, hd4, ((((Fz.rf v).tr hz1).tr hz3).tr hz4)⟩) (List.Perm.of_eq rfl) dX6_readsTrain_78 (Nat.le_refl _) (Nat.le_refl _)
        · refine z_istore_n C [(2, .int (nI x4)), (1, .int (nI x2)), (0, .ref (Ad 0))] dX6_readsTrain_56 (by decide) rfl ?_
          refine z_aload_n C dX6_readsTrain_57 2 rfl ?_
          refine z_iconst (v := nI 1) C dX6_readsTrain_58 (by decide) ?_
          refine z_iconst (v := nI 5) C dX6_readsTrain_59 (by decide) ?_
          refine zm_callVx C (mX6_takesNumber_0 l D κ Ad _ _ _ _ _ _ _ _ n (nxT ip n (nxT ip n (nxT ip n T))) 1 (nI 5) 6 hT4 hn (show v4 19 = 0 by omega) (hh_lit (by decide) (by decide) rfl)) gX6_readsTrain_X6_takesNumber rfl rfl rfl hdX6_takesNumber ⟨Nat.le_of_ble_eq_true rfl, Nat.le_of_ble_eq_true rfl⟩ rfl (Nat.le_of_ble_eq_true rfl) dX6_readsTrain_60 ⟨Nat.zero_le _, Nat.zero_le _⟩ (fun v5 x5 hv5 => ?_)
          rcases hv5 with ⟨c5, o5, hp5, h95, h85, hc5, hd5, hz5, hl5⟩ | ⟨hp5, h95, hT5, hz5⟩
          · refine z_istore_n C [(3, .int (nI x5)), (2, .int (nI x4)), (1, .int (nI x2)), (0, .ref (Ad 0))] dX6_readsTrain_63 (by decide) rfl ?_
            refine z_aload_n C dX6_readsTrain_64 3 rfl ?_
            refine zm_get_fault C hin (x := v5 19) k129 dX6_readsTrain_65 rfl ?_
            refine zn_if_ne C 78 dX6_readsTrain_68 (by decide) (by omega) (fun _ => ?_) (fun q => absurd q (by omega))
            exact z_vret C hr hk (v5, nw) rfl (Or.inl ⟨c5, o5, by simp only [pTrain]; rw [if_neg h1, hp2, bdS_r, if_neg (by rw [h3]; decide), hp4, bdS_r, hp5, bdS_l], h95, h85, hc5, hd5, (((((Fz.rf v).tr hz1).tr hz3).tr hz4).tr hz5)⟩) (List.Perm.of_eq rfl) dX6_readsTrain_78 (Nat.le_refl _) (Nat.le_refl _)
          · refine z_istore_n C [(3, .int (nI x5)), (2, .int (nI x4)), (1, .int (nI x2)), (0, .ref (Ad 0))] dX6_readsTrain_63 (by decide) rfl ?_
            refine z_aload_n C dX6_readsTrain_64 3 rfl ?_
            refine zm_get_fault C hin (x := v5 19) k129 dX6_readsTrain_65 rfl ?_
            refine zn_if_ne C 78 dX6_readsTrain_68 (by decide) (by omega) (fun q => absurd q (by omega)) (fun _ => ?_)
            refine z_aload_n C dX6_readsTrain_71 3 rfl ?_
            refine z_iload_n C dX6_readsTrain_72 2 rfl ?_
            refine z_iload_n C dX6_readsTrain_73 1 rfl ?_
            refine z_iload_n C dX6_readsTrain_74 0 rfl ?_
            refine zm_call C (mX6_sets l D κ Ad _ _ _ _ _ _ _ _ x2 x4 x5 M hB (by omega)) gX6_readsTrain_X6_sets rfl rfl rfl hdX6_sets ⟨Nat.le_of_ble_eq_true rfl, Nat.le_of_ble_eq_true rfl⟩ rfl (Nat.le_of_ble_eq_true rfl) dX6_readsTrain_75 ⟨Nat.zero_le _, Nat.zero_le _⟩ ?_
            exact z_vret C hr hk (v5, setS nw x2 x4 x5) rfl (Or.inr ⟨nxT ip n (nxT ip n (nxT ip n (nxT ip n T))), by simp only [pTrain]; rw [if_neg h1, hp2, bdS_r, if_neg (by rw [h3]; decide), hp4, bdS_r, hp5, bdS_r], h95, hT5, (((((Fz.rf v).tr hz1).tr hz3).tr hz4).tr hz5)⟩) (List.Perm.of_eq rfl) dX6_readsTrain_78 (Nat.le_refl _) (Nat.le_refl _)
      · refine z_aload_n C dX6_readsTrain_40 1 rfl ?_
        refine z_iconst (v := nI 3) C dX6_readsTrain_41 (by decide) ?_
        refine zm_call C (mX6_errs_0 l D κ Ad _ _ _ _ _ _ _ _ 3 (show v1 19 = 0 by omega)) gX6_readsTrain_X6_errs rfl rfl rfl hdX6_errs ⟨Nat.le_of_ble_eq_true rfl, Nat.le_of_ble_eq_true rfl⟩ rfl (Nat.le_of_ble_eq_true rfl) dX6_readsTrain_42 ⟨Nat.zero_le _, Nat.zero_le _⟩ ?_
        refine z_aload_n C dX6_readsTrain_45 1 rfl ?_
        refine zm_call C (mX6_goesOn_1 l D κ Ad _ _ _ _ _ _ _ _ (show 0 < 3 by omega) (show 3 ≤ 5 by omega)) gX6_readsTrain_X6_goesOn rfl rfl rfl hdX6_goesOn ⟨Nat.le_of_ble_eq_true rfl, Nat.le_of_ble_eq_true rfl⟩ rfl (Nat.le_of_ble_eq_true rfl) dX6_readsTrain_46 ⟨Nat.zero_le _, Nat.zero_le _⟩ ?_
        refine z_aload_n C dX6_readsTrain_49 1 rfl ?_
        refine z_iconst (v := nI 1) C dX6_readsTrain_50 (by decide) ?_
        refine z_bipush (v := nI 12) C dX6_readsTrain_51 (by decide) ?_
        refine zm_call C (mX6_takesNumber_1 l D κ Ad _ _ _ _ _ _ _ _ 1 (nI 12) (show 0 < 3 by omega) (show 3 ≤ 5 by omega)) gX6_readsTrain_X6_takesNumber rfl rfl rfl hdX6_takesNumber ⟨Nat.le_of_ble_eq_true rfl, Nat.le_of_ble_eq_true rfl⟩ rfl (Nat.le_of_ble_eq_true rfl) dX6_readsTrain_53 ⟨Nat.zero_le _, Nat.zero_le _⟩ ?_
        refine z_istore_n C [(2, .int (nI 1)), (1, .int (nI x2)), (0, .ref (Ad 0))] dX6_readsTrain_56 (by decide) rfl ?_
        refine z_aload_n C dX6_readsTrain_57 2 rfl ?_
        refine z_iconst (v := nI 1) C dX6_readsTrain_58 (by decide) ?_
        refine z_iconst (v := nI 5) C dX6_readsTrain_59 (by decide) ?_
        refine zm_call C (mX6_takesNumber_1 l D κ Ad _ _ _ _ _ _ _ _ 1 (nI 5) (show 0 < 3 by omega) (show 3 ≤ 5 by omega)) gX6_readsTrain_X6_takesNumber rfl rfl rfl hdX6_takesNumber ⟨Nat.le_of_ble_eq_true rfl, Nat.le_of_ble_eq_true rfl⟩ rfl (Nat.le_of_ble_eq_true rfl) dX6_readsTrain_60 ⟨Nat.zero_le _, Nat.zero_le _⟩ ?_
        refine z_istore_n C [(3, .int (nI 1)), (2, .int (nI 1)), (1, .int (nI x2)), (0, .ref (Ad 0))] dX6_readsTrain_63 (by decide) rfl ?_
        refine z_aload_n C dX6_readsTrain_64 3 rfl ?_
        refine zm_get_fault C hin (x := 3) k129 dX6_readsTrain_65 rfl ?_
        refine z_if_ne C 78 dX6_readsTrain_68 (by decide) (fun _ => ?_) (fun q => absurd q (by decide))
        exact z_vret C hr hk (upN (upN v1 19 3) 20 (v1 16), nw) rfl (Or.inl ⟨3, (nxT ip n T).2.1, by simp only [pTrain]; rw [if_neg h1, hp2, bdS_r, if_pos h4], rfl, hT1.2.2.1, by decide, by decide, (((Fz.rf v).tr hz1).tr (((Fz.rf v1).up (by decide)).up (by decide)))⟩) (List.Perm.of_eq rfl) dX6_readsTrain_78 (Nat.le_refl _) (Nat.le_refl _)
  · refine z_aload_n C dX6_readsTrain_10 0 rfl ?_
    refine z_iconst (v := nI 4) C dX6_readsTrain_11 (by decide) ?_
    refine zm_call C (mX6_errs_0 l D κ Ad _ _ _ _ _ _ _ _ 4 (show v 19 = 0 by omega)) gX6_readsTrain_X6_errs rfl rfl rfl hdX6_errs ⟨Nat.le_of_ble_eq_true rfl, Nat.le_of_ble_eq_true rfl⟩ rfl (Nat.le_of_ble_eq_true rfl) dX6_readsTrain_12 ⟨Nat.zero_le _, Nat.zero_le _⟩ ?_
    exact z_vret C hr hk (upN (upN v 19 4) 20 (v 16), nw) rfl (Or.inl ⟨4, T.2.1, by simp only [pTrain]; rw [if_pos h2], rfl, hT.2.2.1, by decide, by decide, ((Fz.rf v).tr (((Fz.rf v).up (by decide)).up (by decide)))⟩) (List.Perm.of_eq rfl) dX6_readsTrain_15 (Nat.le_refl _) (Nat.le_refl _)
theorem hdX6_readsTrain : yX6_readsTrain.cls = RX6 ∧ yX6_readsTrain.cls ≠ "java/lang/invoke/MethodHandle" ∧ yX6_readsTrain.cls ≠ "java/lang/invoke/VarHandle" ∧ (parseMethodDescriptor yX6_readsTrain.desc).map (fun d => d.parameters.length) = some 0 := by decide +kernel
set_option maxRecDepth 100000 in
set_option maxHeartbeats 4000000 in
theorem mX6_readsPull (l : Launch) (D : va_G) (κ : Nat → ClassId) (Ad : Nat → Nat) (eo : Int32) (ip : Nat → Int32) (v nw aw od sv ot : Nat → Nat) (M : Nat) (n : Nat) (T : Tok) (hB : Bd M nw) (hT : TV ip n v T) (hn : n ≤ 600) (h0 : v 19 = 0) : mVN l yX6_readsPull wsX6_readsPull { frames := 4, cells := 0, slots := 0, locals := 84 } D κ Ad [] eo ip v nw aw od sv ot (fun v9 n9 => (∃ c9 o9, pPull ip n nw T = .inl (c9, o9) ∧ v9 19 = c9 ∧ v9 20 = o9 ∧ 0 < c9 ∧ c9 ≤ 5 ∧ Fz v v9) ∨ (∃ T9, pPull ip n nw T = .inr (n9, T9) ∧ v9 19 = 0 ∧ TV ip n v9 T9 ∧ Fz v v9)) := by
  refine zM_of (cc := cX6_readsPull) (maxL := 2) (rt := none) [(0, .ref (Ad 0))] (by decide +kernel) rfl (Nat.le_of_ble_eq_true rfl) rfl ?_
  intro p e s m args below meth c A C hr hk hnm
  have C : zC p s m args c cX6_readsPull 2 wsX6_readsPull RX6 D (zTy κ) A := C
  have hin : ∀ w ∈ wsX60, w ∈ wsX6_readsPull := fun w h => List.mem_cons_of_mem _ (List.mem_append_right _ h)
  have k129 : Cond.fieldLink RX6 129 "PeatRailwayModel" "fault" "I" ∈ wsX6_readsPull := by decide +kernel
  have k13 : Cond.fieldLink RX6 13 "PeatRailwayModel" "now" "[I" ∈ wsX6_readsPull := by decide +kernel
  obtain ⟨hM1, hM2, ht0, hnb, hnt, hj, hp⟩ := id hB
  refine z_aload_n C dX6_readsPull_0 0 rfl ?_
  refine zm_callV C (mX6_next l D κ Ad _ _ _ _ _ _ _ _ n T hT hn) gX6_readsPull_X6_next rfl rfl rfl hdX6_next ⟨Nat.le_of_ble_eq_true rfl, Nat.le_of_ble_eq_true rfl⟩ rfl (Nat.le_of_ble_eq_true rfl) dX6_readsPull_1 ⟨Nat.zero_le _, Nat.zero_le _⟩ (fun v1 hv1 => ?_)
  obtain ⟨hT1, hf1, ho1, hz1⟩ := hv1
  have h91 : v1 19 = 0 := by omega
  refine z_aload_n C dX6_readsPull_4 0 rfl ?_
  refine zm_callVx C (mX6_blockHere l D κ Ad _ _ _ _ _ _ _ _ M n (nxT ip n T) hB hT1 hn (show v1 19 = 0 by omega)) gX6_readsPull_X6_blockHere rfl rfl rfl hdX6_blockHere ⟨Nat.le_of_ble_eq_true rfl, Nat.le_of_ble_eq_true rfl⟩ rfl (Nat.le_of_ble_eq_true rfl) dX6_readsPull_5 ⟨Nat.zero_le _, Nat.zero_le _⟩ (fun v2 x2 hv2 => ?_)
  rcases hv2 with ⟨c2, hp2, he2, hc2, hd2, hl2⟩ | ⟨hp2, he2⟩
  · have h92 : v2 19 = c2 := by rw [he2]; rfl
    have h82 : v2 20 = (nxT ip n T).2.1 := by rw [he2]; exact hT1.2.2.1
    have hz2 : Fz v1 v2 := by rw [he2]; exact ((Fz.rf v1).up (by decide)).up (by decide)
    refine z_istore_n C [(1, .int (nI x2)), (0, .ref (Ad 0))] dX6_readsPull_8 (by decide) rfl ?_
    refine z_aload_n C dX6_readsPull_9 1 rfl ?_
    refine zm_get_fault C hin (x := v2 19) k129 dX6_readsPull_10 rfl ?_
    refine zn_if_ne C 29 dX6_readsPull_13 (by decide) (by omega) (fun _ => ?_) (fun q => absurd q (by omega))
    refine z_aload_n C dX6_readsPull_29 1 rfl ?_
    refine zm_get_fault C hin (x := v2 19) k129 dX6_readsPull_30 rfl ?_
    refine zn_if_ne C 52 dX6_readsPull_33 (by decide) (by omega) (fun _ => ?_) (fun q => absurd q (by omega))
    exact z_vret C hr hk (v2, nw) rfl (Or.inl ⟨c2, (nxT ip n T).2.1, by simp only [pPull]; rw [hp2, bdS_l], h92, h82, hc2, hd2, (((Fz.rf v).tr hz1).tr hz2)⟩) (List.Perm.of_eq rfl) dX6_readsPull_52 (Nat.le_refl _) (Nat.le_refl _)
  · obtain rfl : v1 = v2 := he2.symm
    have hlt : x2 < nw 1 := pNum_lt hp2
    refine z_istore_n C [(1, .int (nI x2)), (0, .ref (Ad 0))] dX6_readsPull_8 (by decide) rfl ?_
    refine z_aload_n C dX6_readsPull_9 1 rfl ?_
    refine zm_get_fault C hin (x := v1 19) k129 dX6_readsPull_10 rfl ?_
    refine zn_if_ne C 29 dX6_readsPull_13 (by decide) (by omega) (fun q => absurd q (by omega)) (fun _ => ?_)
    refine z_aload_n C dX6_readsPull_16 1 rfl ?_
    refine z_iload_n C dX6_readsPull_17 0 rfl ?_
    refine zm_call C (mX6_reason l D κ Ad _ _ _ _ _ _ _ _ M x2 hB (by omega)) gX6_readsPull_X6_reason rfl rfl rfl hdX6_reason ⟨Nat.le_of_ble_eq_true rfl, Nat.le_of_ble_eq_true rfl⟩ rfl (Nat.le_of_ble_eq_true rfl) dX6_readsPull_18 ⟨Nat.zero_le _, Nat.zero_le _⟩ ?_
    have hrs := rsn_le nw x2
    refine zn_if_eq C 29 dX6_readsPull_21 (by decide) (by omega) (fun h1 => ?_) (fun h2 => ?_)
    · refine z_aload_n C dX6_readsPull_29 1 rfl ?_
      refine zm_get_fault C hin (x := v1 19) k129 dX6_readsPull_30 rfl ?_
      refine zn_if_ne C 52 dX6_readsPull_33 (by decide) (by omega) (fun q => absurd q (by omega)) (fun _ => ?_)
      refine z_aload_n C dX6_readsPull_36 1 rfl ?_
      refine zm_get_now C hin k13 dX6_readsPull_37 ?_
      refine z_iload_n C dX6_readsPull_40 0 rfl ?_
      refine zs_call C (mX6_b l D κ x2) gX6_readsPull_X6_b rfl rfl rfl hdX6_b ⟨Nat.le_of_ble_eq_true rfl, Nat.le_of_ble_eq_true rfl⟩ rfl (Nat.le_of_ble_eq_true rfl) dX6_readsPull_41 ⟨Nat.zero_le _, Nat.zero_le _⟩ ?_
      refine z_iconst (v := nI 4) C dX6_readsPull_44 (by decide) ?_
      refine zn_iadd C dX6_readsPull_45 ?_
      refine z_iconst (v := nI 1) C dX6_readsPull_46 (by decide) ?_
      refine zm_ast_now C (by omega) dX6_readsPull_47 ?_
      refine z_aload_n C dX6_readsPull_48 1 rfl ?_
      refine zm_callV C (mX6_next l D κ Ad _ _ _ _ _ _ _ _ n (nxT ip n T) hT1 hn) gX6_readsPull_X6_next rfl rfl rfl hdX6_next ⟨Nat.le_of_ble_eq_true rfl, Nat.le_of_ble_eq_true rfl⟩ rfl (Nat.le_of_ble_eq_true rfl) dX6_readsPull_49 ⟨Nat.zero_le _, Nat.zero_le _⟩ (fun v3 hv3 => ?_)
      obtain ⟨hT3, hf3, ho3, hz3⟩ := hv3
      have h93 : v3 19 = 0 := by omega
      exact z_vret C hr hk (v3, upN nw ((5 + 6 * x2) + 4) 1) rfl (Or.inr ⟨nxT ip n (nxT ip n T), by simp only [pPull]; rw [hp2, bdS_r, if_pos h1], h93, hT3, (((Fz.rf v).tr hz1).tr hz3)⟩) (List.Perm.of_eq rfl) dX6_readsPull_52 (Nat.le_refl _) (Nat.le_refl _)
    · refine z_aload_n C dX6_readsPull_24 1 rfl ?_
      refine z_iconst (v := nI 5) C dX6_readsPull_25 (by decide) ?_
      refine zm_call C (mX6_errs_0 l D κ Ad _ _ _ _ _ _ _ _ 5 (show v1 19 = 0 by omega)) gX6_readsPull_X6_errs rfl rfl rfl hdX6_errs ⟨Nat.le_of_ble_eq_true rfl, Nat.le_of_ble_eq_true rfl⟩ rfl (Nat.le_of_ble_eq_true rfl) dX6_readsPull_26 ⟨Nat.zero_le _, Nat.zero_le _⟩ ?_
      refine z_aload_n C dX6_readsPull_29 1 rfl ?_
      refine zm_get_fault C hin (x := 5) k129 dX6_readsPull_30 rfl ?_
      refine z_if_ne C 52 dX6_readsPull_33 (by decide) (fun _ => ?_) (fun q => absurd q (by decide))
      exact z_vret C hr hk (upN (upN v1 19 5) 20 (v1 16), nw) rfl (Or.inl ⟨5, (nxT ip n T).2.1, by simp only [pPull]; rw [hp2, bdS_r, if_neg (by omega)], rfl, hT1.2.2.1, by decide, by decide, (((Fz.rf v).tr hz1).tr (((Fz.rf v1).up (by decide)).up (by decide)))⟩) (List.Perm.of_eq rfl) dX6_readsPull_52 (Nat.le_refl _) (Nat.le_refl _)
theorem hdX6_readsPull : yX6_readsPull.cls = RX6 ∧ yX6_readsPull.cls ≠ "java/lang/invoke/MethodHandle" ∧ yX6_readsPull.cls ≠ "java/lang/invoke/VarHandle" ∧ (parseMethodDescriptor yX6_readsPull.desc).map (fun d => d.parameters.length) = some 0 := by decide +kernel
set_option maxRecDepth 100000 in
set_option maxHeartbeats 4000000 in
theorem mX6_readsDanger (l : Launch) (D : va_G) (κ : Nat → ClassId) (Ad : Nat → Nat) (eo : Int32) (ip : Nat → Int32) (v nw aw od sv ot : Nat → Nat) (M : Nat) (n : Nat) (T : Tok) (hB : Bd M nw) (hT : TV ip n v T) (hn : n ≤ 600) (h0 : v 19 = 0) : mVN l yX6_readsDanger wsX6_readsDanger { frames := 3, cells := 0, slots := 0, locals := 64 } D κ Ad [] eo ip v nw aw od sv ot (fun v9 n9 => (∃ c9 o9, pDanger ip n nw T = .inl (c9, o9) ∧ v9 19 = c9 ∧ v9 20 = o9 ∧ 0 < c9 ∧ c9 ≤ 5 ∧ Fz v v9) ∨ (∃ T9, pDanger ip n nw T = .inr (n9, T9) ∧ v9 19 = 0 ∧ TV ip n v9 T9 ∧ Fz v v9)) := by
  refine zM_of (cc := cX6_readsDanger) (maxL := 2) (rt := none) [(0, .ref (Ad 0))] (by decide +kernel) rfl (Nat.le_of_ble_eq_true rfl) rfl ?_
  intro p e s m args below meth c A C hr hk hnm
  have C : zC p s m args c cX6_readsDanger 2 wsX6_readsDanger RX6 D (zTy κ) A := C
  have hin : ∀ w ∈ wsX60, w ∈ wsX6_readsDanger := fun w h => List.mem_cons_of_mem _ (List.mem_append_right _ h)
  have k129 : Cond.fieldLink RX6 129 "PeatRailwayModel" "fault" "I" ∈ wsX6_readsDanger := by decide +kernel
  have k13 : Cond.fieldLink RX6 13 "PeatRailwayModel" "now" "[I" ∈ wsX6_readsDanger := by decide +kernel
  obtain ⟨hM1, hM2, ht0, hnb, hnt, hj, hp⟩ := id hB
  refine z_aload_n C dX6_readsDanger_0 0 rfl ?_
  refine zm_callV C (mX6_next l D κ Ad _ _ _ _ _ _ _ _ n T hT hn) gX6_readsDanger_X6_next rfl rfl rfl hdX6_next ⟨Nat.le_of_ble_eq_true rfl, Nat.le_of_ble_eq_true rfl⟩ rfl (Nat.le_of_ble_eq_true rfl) dX6_readsDanger_1 ⟨Nat.zero_le _, Nat.zero_le _⟩ (fun v1 hv1 => ?_)
  obtain ⟨hT1, hf1, ho1, hz1⟩ := hv1
  have h91 : v1 19 = 0 := by omega
  refine z_aload_n C dX6_readsDanger_4 0 rfl ?_
  refine zm_callVx C (mX6_blockHere l D κ Ad _ _ _ _ _ _ _ _ M n (nxT ip n T) hB hT1 hn (show v1 19 = 0 by omega)) gX6_readsDanger_X6_blockHere rfl rfl rfl hdX6_blockHere ⟨Nat.le_of_ble_eq_true rfl, Nat.le_of_ble_eq_true rfl⟩ rfl (Nat.le_of_ble_eq_true rfl) dX6_readsDanger_5 ⟨Nat.zero_le _, Nat.zero_le _⟩ (fun v2 x2 hv2 => ?_)
  rcases hv2 with ⟨c2, hp2, he2, hc2, hd2, hl2⟩ | ⟨hp2, he2⟩
  · have h92 : v2 19 = c2 := by rw [he2]; rfl
    have h82 : v2 20 = (nxT ip n T).2.1 := by rw [he2]; exact hT1.2.2.1
    have hz2 : Fz v1 v2 := by rw [he2]; exact ((Fz.rf v1).up (by decide)).up (by decide)
    refine z_istore_n C [(1, .int (nI x2)), (0, .ref (Ad 0))] dX6_readsDanger_8 (by decide) rfl ?_
    refine z_aload_n C dX6_readsDanger_9 1 rfl ?_
    refine zm_get_fault C hin (x := v2 19) k129 dX6_readsDanger_10 rfl ?_
    refine zn_if_ne C 35 dX6_readsDanger_13 (by decide) (by omega) (fun _ => ?_) (fun q => absurd q (by omega))
    refine z_aload_n C dX6_readsDanger_35 1 rfl ?_
    refine zm_get_fault C hin (x := v2 19) k129 dX6_readsDanger_36 rfl ?_
    refine zn_if_ne C 58 dX6_readsDanger_39 (by decide) (by omega) (fun _ => ?_) (fun q => absurd q (by omega))
    exact z_vret C hr hk (v2, nw) rfl (Or.inl ⟨c2, (nxT ip n T).2.1, by simp only [pDanger]; rw [hp2, bdS_l], h92, h82, hc2, hd2, (((Fz.rf v).tr hz1).tr hz2)⟩) (List.Perm.of_eq rfl) dX6_readsDanger_58 (Nat.le_refl _) (Nat.le_refl _)
  · obtain rfl : v1 = v2 := he2.symm
    have hlt : x2 < nw 1 := pNum_lt hp2
    refine z_istore_n C [(1, .int (nI x2)), (0, .ref (Ad 0))] dX6_readsDanger_8 (by decide) rfl ?_
    refine z_aload_n C dX6_readsDanger_9 1 rfl ?_
    refine zm_get_fault C hin (x := v1 19) k129 dX6_readsDanger_10 rfl ?_
    refine zn_if_ne C 35 dX6_readsDanger_13 (by decide) (by omega) (fun q => absurd q (by omega)) (fun _ => ?_)
    refine z_aload_n C dX6_readsDanger_16 1 rfl ?_
    refine zm_get_now C hin k13 dX6_readsDanger_17 ?_
    refine z_iload_n C dX6_readsDanger_20 0 rfl ?_
    refine zs_call C (mX6_b l D κ x2) gX6_readsDanger_X6_b rfl rfl rfl hdX6_b ⟨Nat.le_of_ble_eq_true rfl, Nat.le_of_ble_eq_true rfl⟩ rfl (Nat.le_of_ble_eq_true rfl) dX6_readsDanger_21 ⟨Nat.zero_le _, Nat.zero_le _⟩ ?_
    refine z_iconst (v := nI 4) C dX6_readsDanger_24 (by decide) ?_
    refine zn_iadd C dX6_readsDanger_25 ?_
    refine zm_ald_now C (by omega) dX6_readsDanger_26 ?_
    have g1 : nw ((5 + 6 * x2) + 4) ≤ M := hB.j (by omega) (by omega)
    refine zn_if_ne C 35 dX6_readsDanger_27 (by decide) (by omega) (fun h2 => ?_) (fun h3 => ?_)
    · refine z_aload_n C dX6_readsDanger_35 1 rfl ?_
      refine zm_get_fault C hin (x := v1 19) k129 dX6_readsDanger_36 rfl ?_
      refine zn_if_ne C 58 dX6_readsDanger_39 (by decide) (by omega) (fun q => absurd q (by omega)) (fun _ => ?_)
      refine z_aload_n C dX6_readsDanger_42 1 rfl ?_
      refine zm_get_now C hin k13 dX6_readsDanger_43 ?_
      refine z_iload_n C dX6_readsDanger_46 0 rfl ?_
      refine zs_call C (mX6_b l D κ x2) gX6_readsDanger_X6_b rfl rfl rfl hdX6_b ⟨Nat.le_of_ble_eq_true rfl, Nat.le_of_ble_eq_true rfl⟩ rfl (Nat.le_of_ble_eq_true rfl) dX6_readsDanger_47 ⟨Nat.zero_le _, Nat.zero_le _⟩ ?_
      refine z_iconst (v := nI 4) C dX6_readsDanger_50 (by decide) ?_
      refine zn_iadd C dX6_readsDanger_51 ?_
      refine z_iconst (v := nI 0) C dX6_readsDanger_52 (by decide) ?_
      refine zm_ast_now C (by omega) dX6_readsDanger_53 ?_
      refine z_aload_n C dX6_readsDanger_54 1 rfl ?_
      refine zm_callV C (mX6_next l D κ Ad _ _ _ _ _ _ _ _ n (nxT ip n T) hT1 hn) gX6_readsDanger_X6_next rfl rfl rfl hdX6_next ⟨Nat.le_of_ble_eq_true rfl, Nat.le_of_ble_eq_true rfl⟩ rfl (Nat.le_of_ble_eq_true rfl) dX6_readsDanger_55 ⟨Nat.zero_le _, Nat.zero_le _⟩ (fun v3 hv3 => ?_)
      obtain ⟨hT3, hf3, ho3, hz3⟩ := hv3
      have h93 : v3 19 = 0 := by omega
      exact z_vret C hr hk (v3, upN nw ((5 + 6 * x2) + 4) 0) rfl (Or.inr ⟨nxT ip n (nxT ip n T), by simp only [pDanger]; rw [hp2, bdS_r, if_neg (by omega)], h93, hT3, (((Fz.rf v).tr hz1).tr hz3)⟩) (List.Perm.of_eq rfl) dX6_readsDanger_58 (Nat.le_refl _) (Nat.le_refl _)
    · refine z_aload_n C dX6_readsDanger_30 1 rfl ?_
      refine z_iconst (v := nI 5) C dX6_readsDanger_31 (by decide) ?_
      refine zm_call C (mX6_errs_0 l D κ Ad _ _ _ _ _ _ _ _ 5 (show v1 19 = 0 by omega)) gX6_readsDanger_X6_errs rfl rfl rfl hdX6_errs ⟨Nat.le_of_ble_eq_true rfl, Nat.le_of_ble_eq_true rfl⟩ rfl (Nat.le_of_ble_eq_true rfl) dX6_readsDanger_32 ⟨Nat.zero_le _, Nat.zero_le _⟩ ?_
      refine z_aload_n C dX6_readsDanger_35 1 rfl ?_
      refine zm_get_fault C hin (x := 5) k129 dX6_readsDanger_36 rfl ?_
      refine z_if_ne C 58 dX6_readsDanger_39 (by decide) (fun _ => ?_) (fun q => absurd q (by decide))
      exact z_vret C hr hk (upN (upN v1 19 5) 20 (v1 16), nw) rfl (Or.inl ⟨5, (nxT ip n T).2.1, by simp only [pDanger]; rw [hp2, bdS_r, if_pos h3], rfl, hT1.2.2.1, by decide, by decide, (((Fz.rf v).tr hz1).tr (((Fz.rf v1).up (by decide)).up (by decide)))⟩) (List.Perm.of_eq rfl) dX6_readsDanger_58 (Nat.le_refl _) (Nat.le_refl _)
theorem hdX6_readsDanger : yX6_readsDanger.cls = RX6 ∧ yX6_readsDanger.cls ≠ "java/lang/invoke/MethodHandle" ∧ yX6_readsDanger.cls ≠ "java/lang/invoke/VarHandle" ∧ (parseMethodDescriptor yX6_readsDanger.desc).map (fun d => d.parameters.length) = some 0 := by decide +kernel
set_option maxRecDepth 100000 in
set_option maxHeartbeats 4000000 in
theorem mX6_readsRepair (l : Launch) (D : va_G) (κ : Nat → ClassId) (Ad : Nat → Nat) (eo : Int32) (ip : Nat → Int32) (v nw aw od sv ot : Nat → Nat) (M : Nat) (n : Nat) (T : Tok) (hB : Bd M nw) (hT : TV ip n v T) (hn : n ≤ 600) (h0 : v 19 = 0) : mVN l yX6_readsRepair wsX6_readsRepair { frames := 3, cells := 0, slots := 0, locals := 64 } D κ Ad [] eo ip v nw aw od sv ot (fun v9 n9 => (∃ c9 o9, pRepair ip n nw T = .inl (c9, o9) ∧ v9 19 = c9 ∧ v9 20 = o9 ∧ 0 < c9 ∧ c9 ≤ 5 ∧ Fz v v9) ∨ (∃ T9, pRepair ip n nw T = .inr (n9, T9) ∧ v9 19 = 0 ∧ TV ip n v9 T9 ∧ Fz v v9)) := by
  refine zM_of (cc := cX6_readsRepair) (maxL := 2) (rt := none) [(0, .ref (Ad 0))] (by decide +kernel) rfl (Nat.le_of_ble_eq_true rfl) rfl ?_
  intro p e s m args below meth c A C hr hk hnm
  have C : zC p s m args c cX6_readsRepair 2 wsX6_readsRepair RX6 D (zTy κ) A := C
  have hin : ∀ w ∈ wsX60, w ∈ wsX6_readsRepair := fun w h => List.mem_cons_of_mem _ (List.mem_append_right _ h)
  have k129 : Cond.fieldLink RX6 129 "PeatRailwayModel" "fault" "I" ∈ wsX6_readsRepair := by decide +kernel
  have k13 : Cond.fieldLink RX6 13 "PeatRailwayModel" "now" "[I" ∈ wsX6_readsRepair := by decide +kernel
  obtain ⟨hM1, hM2, ht0, hnb, hnt, hj, hp⟩ := id hB
  refine z_aload_n C dX6_readsRepair_0 0 rfl ?_
  refine zm_callV C (mX6_next l D κ Ad _ _ _ _ _ _ _ _ n T hT hn) gX6_readsRepair_X6_next rfl rfl rfl hdX6_next ⟨Nat.le_of_ble_eq_true rfl, Nat.le_of_ble_eq_true rfl⟩ rfl (Nat.le_of_ble_eq_true rfl) dX6_readsRepair_1 ⟨Nat.zero_le _, Nat.zero_le _⟩ (fun v1 hv1 => ?_)
  obtain ⟨hT1, hf1, ho1, hz1⟩ := hv1
  have h91 : v1 19 = 0 := by omega
  refine z_aload_n C dX6_readsRepair_4 0 rfl ?_
  refine zm_callVx C (mX6_blockHere l D κ Ad _ _ _ _ _ _ _ _ M n (nxT ip n T) hB hT1 hn (show v1 19 = 0 by omega)) gX6_readsRepair_X6_blockHere rfl rfl rfl hdX6_blockHere ⟨Nat.le_of_ble_eq_true rfl, Nat.le_of_ble_eq_true rfl⟩ rfl (Nat.le_of_ble_eq_true rfl) dX6_readsRepair_5 ⟨Nat.zero_le _, Nat.zero_le _⟩ (fun v2 x2 hv2 => ?_)
  rcases hv2 with ⟨c2, hp2, he2, hc2, hd2, hl2⟩ | ⟨hp2, he2⟩
  · have h92 : v2 19 = c2 := by rw [he2]; rfl
    have h82 : v2 20 = (nxT ip n T).2.1 := by rw [he2]; exact hT1.2.2.1
    have hz2 : Fz v1 v2 := by rw [he2]; exact ((Fz.rf v1).up (by decide)).up (by decide)
    refine z_istore_n C [(1, .int (nI x2)), (0, .ref (Ad 0))] dX6_readsRepair_8 (by decide) rfl ?_
    refine z_aload_n C dX6_readsRepair_9 1 rfl ?_
    refine zm_get_fault C hin (x := v2 19) k129 dX6_readsRepair_10 rfl ?_
    refine zn_if_ne C 30 dX6_readsRepair_13 (by decide) (by omega) (fun _ => ?_) (fun q => absurd q (by omega))
    refine z_aload_n C dX6_readsRepair_30 1 rfl ?_
    refine zm_get_fault C hin (x := v2 19) k129 dX6_readsRepair_31 rfl ?_
    refine zn_if_ne C 53 dX6_readsRepair_34 (by decide) (by omega) (fun _ => ?_) (fun q => absurd q (by omega))
    exact z_vret C hr hk (v2, nw) rfl (Or.inl ⟨c2, (nxT ip n T).2.1, by simp only [pRepair]; rw [hp2, bdS_l], h92, h82, hc2, hd2, (((Fz.rf v).tr hz1).tr hz2)⟩) (List.Perm.of_eq rfl) dX6_readsRepair_53 (Nat.le_refl _) (Nat.le_refl _)
  · obtain rfl : v1 = v2 := he2.symm
    have hlt : x2 < nw 1 := pNum_lt hp2
    refine z_istore_n C [(1, .int (nI x2)), (0, .ref (Ad 0))] dX6_readsRepair_8 (by decide) rfl ?_
    refine z_aload_n C dX6_readsRepair_9 1 rfl ?_
    refine zm_get_fault C hin (x := v1 19) k129 dX6_readsRepair_10 rfl ?_
    refine zn_if_ne C 30 dX6_readsRepair_13 (by decide) (by omega) (fun q => absurd q (by omega)) (fun _ => ?_)
    refine z_aload_n C dX6_readsRepair_16 1 rfl ?_
    refine z_iload_n C dX6_readsRepair_17 0 rfl ?_
    refine zm_call C (mX6_trainAt l D κ Ad _ _ _ _ _ _ _ _ M x2 hB (by omega)) gX6_readsRepair_X6_trainAt rfl rfl rfl hdX6_trainAt ⟨Nat.le_of_ble_eq_true rfl, Nat.le_of_ble_eq_true rfl⟩ rfl (Nat.le_of_ble_eq_true rfl) dX6_readsRepair_18 ⟨Nat.zero_le _, Nat.zero_le _⟩ ?_
    have htr := trAt_le nw x2
    refine z_iconst (v := (-1)) C dX6_readsRepair_21 (by decide) ?_
    refine zt_icmp_eq C 30 dX6_readsRepair_22 (by decide) (by omega) (fun h1 => ?_) (fun h2 => ?_)
    · refine z_aload_n C dX6_readsRepair_30 1 rfl ?_
      refine zm_get_fault C hin (x := v1 19) k129 dX6_readsRepair_31 rfl ?_
      refine zn_if_ne C 53 dX6_readsRepair_34 (by decide) (by omega) (fun q => absurd q (by omega)) (fun _ => ?_)
      refine z_aload_n C dX6_readsRepair_37 1 rfl ?_
      refine zm_get_now C hin k13 dX6_readsRepair_38 ?_
      refine z_iload_n C dX6_readsRepair_41 0 rfl ?_
      refine zs_call C (mX6_b l D κ x2) gX6_readsRepair_X6_b rfl rfl rfl hdX6_b ⟨Nat.le_of_ble_eq_true rfl, Nat.le_of_ble_eq_true rfl⟩ rfl (Nat.le_of_ble_eq_true rfl) dX6_readsRepair_42 ⟨Nat.zero_le _, Nat.zero_le _⟩ ?_
      refine z_iconst (v := nI 1) C dX6_readsRepair_45 (by decide) ?_
      refine zn_iadd C dX6_readsRepair_46 ?_
      refine z_iconst (v := nI 0) C dX6_readsRepair_47 (by decide) ?_
      refine zm_ast_now C (by omega) dX6_readsRepair_48 ?_
      refine z_aload_n C dX6_readsRepair_49 1 rfl ?_
      refine zm_callV C (mX6_next l D κ Ad _ _ _ _ _ _ _ _ n (nxT ip n T) hT1 hn) gX6_readsRepair_X6_next rfl rfl rfl hdX6_next ⟨Nat.le_of_ble_eq_true rfl, Nat.le_of_ble_eq_true rfl⟩ rfl (Nat.le_of_ble_eq_true rfl) dX6_readsRepair_50 ⟨Nat.zero_le _, Nat.zero_le _⟩ (fun v3 hv3 => ?_)
      obtain ⟨hT3, hf3, ho3, hz3⟩ := hv3
      have h93 : v3 19 = 0 := by omega
      exact z_vret C hr hk (v3, upN nw ((5 + 6 * x2) + 1) 0) rfl (Or.inr ⟨nxT ip n (nxT ip n T), by simp only [pRepair]; rw [hp2, bdS_r, if_pos h1], h93, hT3, (((Fz.rf v).tr hz1).tr hz3)⟩) (List.Perm.of_eq rfl) dX6_readsRepair_53 (Nat.le_refl _) (Nat.le_refl _)
    · refine z_aload_n C dX6_readsRepair_25 1 rfl ?_
      refine z_iconst (v := nI 5) C dX6_readsRepair_26 (by decide) ?_
      refine zm_call C (mX6_errs_0 l D κ Ad _ _ _ _ _ _ _ _ 5 (show v1 19 = 0 by omega)) gX6_readsRepair_X6_errs rfl rfl rfl hdX6_errs ⟨Nat.le_of_ble_eq_true rfl, Nat.le_of_ble_eq_true rfl⟩ rfl (Nat.le_of_ble_eq_true rfl) dX6_readsRepair_27 ⟨Nat.zero_le _, Nat.zero_le _⟩ ?_
      refine z_aload_n C dX6_readsRepair_30 1 rfl ?_
      refine zm_get_fault C hin (x := 5) k129 dX6_readsRepair_31 rfl ?_
      refine z_if_ne C 53 dX6_readsRepair_34 (by decide) (fun _ => ?_) (fun q => absurd q (by decide))
      exact z_vret C hr hk (upN (upN v1 19 5) 20 (v1 16), nw) rfl (Or.inl ⟨5, (nxT ip n T).2.1, by simp only [pRepair]; rw [hp2, bdS_r, if_neg (by omega)], rfl, hT1.2.2.1, by decide, by decide, (((Fz.rf v).tr hz1).tr (((Fz.rf v1).up (by decide)).up (by decide)))⟩) (List.Perm.of_eq rfl) dX6_readsRepair_53 (Nat.le_refl _) (Nat.le_refl _)
theorem hdX6_readsRepair : yX6_readsRepair.cls = RX6 ∧ yX6_readsRepair.cls ≠ "java/lang/invoke/MethodHandle" ∧ yX6_readsRepair.cls ≠ "java/lang/invoke/VarHandle" ∧ (parseMethodDescriptor yX6_readsRepair.desc).map (fun d => d.parameters.length) = some 0 := by decide +kernel
end M13
