section M15
set_option maxRecDepth 100000 in
set_option maxHeartbeats 4000000 in
theorem mX6_readsText (l : Launch) (D : va_G) (κ : Nat → ClassId) (Ad : Nat → Nat) (eo : Int32) (ip : Nat → Int32) (v nw aw od sv ot : Nat → Nat) (n : Nat) (hn : n ≤ 600) : mVN l yX6_readsText wsX6_readsText { frames := 9, cells := 0, slots := 0, locals := 197 } D κ Ad [.int (nI n)] eo ip v nw aw od sv ot (fun v9 n9 => (∃ c9 o9, pText ip n = .inl (c9, o9) ∧ v9 19 = c9 ∧ v9 20 = o9 ∧ 0 < c9 ∧ c9 ≤ 5 ∧ Fy v v9) ∨ (pText ip n = .inr n9 ∧ v9 19 = 0 ∧ Fy v v9)) := by
  refine zM_of (cc := cX6_readsText) (maxL := 3) (rt := none) [(0, .ref (Ad 0)), (1, .int (nI n))] (by decide +kernel) rfl (Nat.le_of_ble_eq_true rfl) rfl ?_
  intro p e s m args below meth c A C hr hk hnm
  have C : zC p s m args c cX6_readsText 3 wsX6_readsText RX6 D (zTy κ) A := C
  have hin : ∀ w ∈ wsX60, w ∈ wsX6_readsText := fun w h => List.mem_cons_of_mem _ (List.mem_append_right _ h)
  have k13 : Cond.fieldLink RX6 13 "PeatRailwayModel" "now" "[I" ∈ wsX6_readsText := by decide +kernel
  have k110 : Cond.fieldLink RX6 110 "PeatRailwayModel" "textEnd" "I" ∈ wsX6_readsText := by decide +kernel
  have k129 : Cond.fieldLink RX6 129 "PeatRailwayModel" "fault" "I" ∈ wsX6_readsText := by decide +kernel
  have k101 : Cond.fieldLink RX6 101 "PeatRailwayModel" "kind" "I" ∈ wsX6_readsText := by decide +kernel
  have k104 : Cond.fieldLink RX6 104 "PeatRailwayModel" "to" "I" ∈ wsX6_readsText := by decide +kernel
  refine z_iconst (v := nI 0) C dX6_readsText_0 (by decide) ?_
  refine z_istore_n C [(2, .int (nI 0)), (0, .ref (Ad 0)), (1, .int (nI n))] dX6_readsText_1 (by decide) rfl ?_
  refine z_lv [1, 2, 0] rfl ?_
  refine z_loop (σ := Nat × (Nat → Nat)) (fun x => MW κ Ad eo ip v x.2 aw od sv ot) (fun x => [(0, .ref (Ad 0)), (1, .int (nI n)), (2, .int (nI x.1))]) (fun x => x.1 ≤ 140 ∧ ∀ j, x.2 j = if j < x.1 then (fun _ => 0) j else nw j) (fun x => 140 - x.1) ((0, nw)) (⟨Nat.zero_le _, fun j => by simp⟩) rfl rfl ?_
  rintro ⟨k, τ⟩ hI2 ih2
  dsimp only at hI2 ih2 ⊢
  obtain ⟨hk1, hk2⟩ := hI2
  refine z_iload_n C dX6_readsText_2 2 rfl ?_
  refine z_sipush (v := nI 140) C dX6_readsText_3 (by decide) ?_
  refine zn_icmp_ge C 22 dX6_readsText_6 (by decide) (by omega) (by omega) (fun h1 => ?_) (fun h2 => ?_)
  · refine zr_now (fun _ => 0) (fun j hj => by rw [hk2 j, if_pos (by omega)]) ?_
    refine z_aload_n C dX6_readsText_22 0 rfl ?_
    refine z_iload_n C dX6_readsText_23 1 rfl ?_
    refine zm_put_textEnd C hin k110 dX6_readsText_24 ?_
    refine z_aload_n C dX6_readsText_27 0 rfl ?_
    refine z_iconst (v := nI 0) C dX6_readsText_28 (by decide) ?_
    refine zm_put_fault C hin k129 dX6_readsText_29 ?_
    refine z_aload_n C dX6_readsText_32 0 rfl ?_
    refine z_iconst (v := nI 0) C dX6_readsText_33 (by decide) ?_
    refine zm_put_kind C hin k101 dX6_readsText_34 ?_
    refine z_aload_n C dX6_readsText_37 0 rfl ?_
    refine z_iconst (v := nI 0) C dX6_readsText_38 (by decide) ?_
    refine zm_put_to C hin k104 dX6_readsText_39 ?_
    have hT0 : TV0 n (upN (upN (upN (upN v 14 n) 19 0) 15 0) 17 0) (0, 0, 0) := ⟨rfl, rfl, rfl, Nat.zero_le _, Nat.zero_le _⟩
    have hy0 : Fy v (upN (upN (upN (upN v 14 n) 19 0) 15 0) 17 0) := (((((show Fy v v from fun _ _ => rfl).up (by decide)).up (by decide)).up (by decide)).up (by decide))
    refine z_aload_n C dX6_readsText_42 0 rfl ?_
    refine zm_callV C (mX6_next_w l D κ Ad _ _ _ _ _ _ _ _ n (0, 0, 0) hT0 hn) gX6_readsText_X6_next rfl rfl rfl hdX6_next ⟨Nat.le_of_ble_eq_true rfl, Nat.le_of_ble_eq_true rfl⟩ rfl (Nat.le_of_ble_eq_true rfl) dX6_readsText_43 ⟨Nat.zero_le _, Nat.zero_le _⟩ (fun v1 hv1 => ?_)
    obtain ⟨hT1, hf1, ho1, hz1⟩ := hv1
    have h91 : v1 19 = 0 := hf1
    have hy1 : Fy v v1 := hy0.tr hz1.y
    refine z_aload_n C dX6_readsText_46 0 rfl ?_
    refine z_iconst (v := nI 0) C dX6_readsText_47 (by decide) ?_
    refine zm_call C (mX6_isKey l D κ Ad _ _ _ _ _ _ _ _ 0 n (nxT ip n (0, 0, 0)) (by omega) hT1 hn) gX6_readsText_X6_isKey rfl rfl rfl hdX6_isKey ⟨Nat.le_of_ble_eq_true rfl, Nat.le_of_ble_eq_true rfl⟩ rfl (Nat.le_of_ble_eq_true rfl) dX6_readsText_48 ⟨Nat.zero_le _, Nat.zero_le _⟩ ?_
    refine zb_if_eq C 61 dX6_readsText_51 (by decide) (fun h3 => ?_) (fun h4 => ?_)
    · refine z_aload_n C dX6_readsText_61 0 rfl ?_
      refine z_iconst (v := nI 1) C dX6_readsText_62 (by decide) ?_
      refine zm_call C (mX6_errs_0 l D κ Ad _ _ _ _ _ _ _ _ 1 (show v1 19 = 0 by omega)) gX6_readsText_X6_errs rfl rfl rfl hdX6_errs ⟨Nat.le_of_ble_eq_true rfl, Nat.le_of_ble_eq_true rfl⟩ rfl (Nat.le_of_ble_eq_true rfl) dX6_readsText_63 ⟨Nat.zero_le _, Nat.zero_le _⟩ ?_
      refine z_lv [0] rfl ?_
      refine z_loop (σ := (Nat → Nat) × (Nat → Nat) × Tok × Nat) (fun x => MW κ Ad eo ip x.1 x.2.1 aw od sv ot) (fun x => [(0, .ref (Ad 0))]) (fun x => Fy v x.1 ∧ x.1 19 ≤ 5 ∧ ((x.1 19 = 0 ∧ TV ip n x.1 x.2.2.1 ∧ pLoop ip n x.2.2.2 x.2.1 x.2.2.1 = pText ip n ∧ n < x.2.2.2 + x.2.2.1.2.2 ∧ Bd (20 + 1100 * x.2.2.1.2.2) x.2.1 ∧ x.2.1 0 ≤ 9999) ∨ (0 < x.1 19 ∧ pText ip n = .inl (x.1 19, x.1 20)))) (fun x => if x.1 19 = 0 then x.2.2.2 else 0) ((upN (upN v1 19 1) 20 (v1 16), fun _ => 0, (0, 0, 0), 0)) (⟨(hy1.up (by decide)).up (by decide), (show (1 : Nat) ≤ 5 by decide), Or.inr ⟨(show (0 : Nat) < 1 by decide), by simp only [pText]; rw [if_neg (by rw [h3]; decide)]; exact congrArg (fun q => Sum.inl (1, q)) hT1.2.2.1.symm⟩⟩) rfl rfl ?_
      rintro ⟨u, m9, T, F⟩ hI66 ih66
      dsimp only at hI66 ih66 ⊢
      obtain ⟨hyu, hu5, hI9⟩ := hI66
      refine z_aload_n C dX6_readsText_66 0 rfl ?_
      refine zm_get_fault C hin (x := u 19) k129 dX6_readsText_67 rfl ?_
      refine zn_if_ne C 107 dX6_readsText_70 (by decide) (by omega) (fun h5 => ?_) (fun h6 => ?_)
      · exact z_vret C hr hk (u, m9) rfl ((hI9.resolve_left (fun q => by have := q.1; omega)).elim (fun h1 h2 => Or.inl ⟨u 19, u 20, h2, rfl, rfl, h1, hu5, hyu⟩)) (List.Perm.of_eq rfl) dX6_readsText_107 (Nat.le_refl _) (Nat.le_refl _)
      · obtain ⟨hu, hTu, hR, hF, hBm, h99⟩ := hI9.resolve_right (fun q => by have := q.1; omega)
        obtain ⟨F1, rfl⟩ : ∃ F1, F = F1 + 1 := ⟨F - 1, by have := hTu.2.2.2.2.2.1; omega⟩
        have hTl := hTu.2.2.2.2.2.1
        have hk5 := hTu.2.1
        have hk4 := hTu.2.2.2.2.2.2.2
        refine z_aload_n C dX6_readsText_73 0 rfl ?_
        refine zm_get_kind C hin (x := u 15) k101 dX6_readsText_74 rfl ?_
        refine zn_if_eq C 107 dX6_readsText_77 (by decide) (by omega) (fun h7 => ?_) (fun h8 => ?_)
        · exact z_vret C hr hk (u, m9) rfl (Or.inr ⟨by rw [← hR]; simp only [pLoop]; rw [if_pos (by omega)], hu, hyu⟩) (List.Perm.of_eq rfl) dX6_readsText_107 (Nat.le_refl _) (Nat.le_refl _)
        · refine z_aload_n C dX6_readsText_80 0 rfl ?_
          refine zm_get_kind C hin (x := u 15) k101 dX6_readsText_81 rfl ?_
          refine z_iconst (v := nI 3) C dX6_readsText_84 (by decide) ?_
          refine zn_icmp_ne C 99 dX6_readsText_85 (by decide) (by omega) (by omega) (fun h9 => ?_) (fun h10 => ?_)
          · refine z_aload_n C dX6_readsText_99 0 rfl ?_
            refine z_iconst (v := nI 1) C dX6_readsText_100 (by decide) ?_
            refine zm_call C (mX6_errs_0 l D κ Ad _ _ _ _ _ _ _ _ 1 (show u 19 = 0 by omega)) gX6_readsText_X6_errs rfl rfl rfl hdX6_errs ⟨Nat.le_of_ble_eq_true rfl, Nat.le_of_ble_eq_true rfl⟩ rfl (Nat.le_of_ble_eq_true rfl) dX6_readsText_101 ⟨Nat.zero_le _, Nat.zero_le _⟩ ?_
            refine z_goto (tgt := 66) C dX6_readsText_104 (by decide) ?_
            refine z_lv [0] rfl ?_
            exact ih66 (upN (upN u 19 1) 20 (u 16), m9, T, 0) ⟨(hyu.up (by decide)).up (by decide), (show (1 : Nat) ≤ 5 by decide), Or.inr ⟨(show (0 : Nat) < 1 by decide), by dsimp only; rw [← hR]; simp only [pLoop]; rw [if_neg (by omega), if_neg (by omega)]; exact congrArg (fun q => Sum.inl (1, q)) hTu.2.2.1.symm⟩⟩ (by show (if (1 : Nat) = 0 then 0 else 0) < (if u 19 = 0 then F1 + 1 else 0); rw [if_neg (by decide), if_pos hu]; omega)
          · refine z_aload_n C dX6_readsText_88 0 rfl ?_
            refine zm_callV C (mX6_next l D κ Ad _ _ _ _ _ _ _ _ n T hTu hn) gX6_readsText_X6_next rfl rfl rfl hdX6_next ⟨Nat.le_of_ble_eq_true rfl, Nat.le_of_ble_eq_true rfl⟩ rfl (Nat.le_of_ble_eq_true rfl) dX6_readsText_89 ⟨Nat.zero_le _, Nat.zero_le _⟩ (fun v2 hv2 => ?_)
            obtain ⟨hT2, hf2, ho2, hz2⟩ := hv2
            have h92 : v2 19 = 0 := by omega
            refine z_aload_n C dX6_readsText_92 0 rfl ?_
            refine zm_callVN C (mX6_readsLine l D κ Ad _ _ _ _ _ _ _ _ (20 + 1100 * T.2.2) n (nxT ip n T) hBm hT2 hn (show v2 19 = 0 by omega) (by omega) (by omega)) gX6_readsText_X6_readsLine rfl rfl rfl hdX6_readsLine ⟨Nat.le_of_ble_eq_true rfl, Nat.le_of_ble_eq_true rfl⟩ rfl (Nat.le_of_ble_eq_true rfl) dX6_readsText_93 ⟨Nat.zero_le _, Nat.zero_le _⟩ (fun v3 n3 hv3 => ?_)
            rcases hv3 with ⟨c3, o3, hp3, h93, h83, hc3, hd3, hz3⟩ | ⟨T3, hp3, h93, hT3, hz3⟩
            · refine z_goto (tgt := 66) C dX6_readsText_96 (by decide) ?_
              refine z_lv [0] rfl ?_
              exact ih66 (v3, n3, T, 0) ⟨hyu.tr (hz2.y.tr hz3.y), by dsimp only; omega, Or.inr ⟨by dsimp only; omega, by dsimp only; rw [← hR]; simp only [pLoop]; rw [if_neg (by omega), if_pos (by omega), hp3, bdS_l, h93, h83]⟩⟩ (by dsimp only; rw [if_neg (by omega), if_pos hu]; omega)
            · have hg3 := pLine_go hBm (by omega) h99 hTl hp3
              dsimp only at hg3
              refine z_goto (tgt := 66) C dX6_readsText_96 (by decide) ?_
              refine z_lv [0] rfl ?_
              exact ih66 (v3, n3, T3, F1) ⟨hyu.tr (hz2.y.tr hz3.y), by dsimp only; omega, Or.inl ⟨h93, hT3, by dsimp only; rw [← hR]; simp only [pLoop]; rw [if_neg (by omega), if_pos (by omega), hp3, bdS_r], by dsimp only; omega, hg3.2.2.1.mono (by dsimp only; omega) (by have := hg3.2.1; dsimp only; omega), hg3.2.2.2⟩⟩ (by dsimp only; rw [if_pos h93, if_pos hu]; omega)
    · refine z_aload_n C dX6_readsText_54 0 rfl ?_
      refine zm_callV C (mX6_next l D κ Ad _ _ _ _ _ _ _ _ n (nxT ip n (0, 0, 0)) hT1 hn) gX6_readsText_X6_next rfl rfl rfl hdX6_next ⟨Nat.le_of_ble_eq_true rfl, Nat.le_of_ble_eq_true rfl⟩ rfl (Nat.le_of_ble_eq_true rfl) dX6_readsText_55 ⟨Nat.zero_le _, Nat.zero_le _⟩ (fun v4 hv4 => ?_)
      obtain ⟨hT4, hf4, ho4, hz4⟩ := hv4
      have h94 : v4 19 = 0 := by omega
      refine z_goto (tgt := 66) C dX6_readsText_58 (by decide) ?_
      refine z_lv [0] rfl ?_
      refine z_loop (σ := (Nat → Nat) × (Nat → Nat) × Tok × Nat) (fun x => MW κ Ad eo ip x.1 x.2.1 aw od sv ot) (fun x => [(0, .ref (Ad 0))]) (fun x => Fy v x.1 ∧ x.1 19 ≤ 5 ∧ ((x.1 19 = 0 ∧ TV ip n x.1 x.2.2.1 ∧ pLoop ip n x.2.2.2 x.2.1 x.2.2.1 = pText ip n ∧ n < x.2.2.2 + x.2.2.1.2.2 ∧ Bd (20 + 1100 * x.2.2.1.2.2) x.2.1 ∧ x.2.1 0 ≤ 9999) ∨ (0 < x.1 19 ∧ pText ip n = .inl (x.1 19, x.1 20)))) (fun x => if x.1 19 = 0 then x.2.2.2 else 0) ((v4, fun _ => 0, nxT ip n (nxT ip n (0, 0, 0)), n + 1)) (⟨hy1.tr hz4.y, by dsimp only; omega, Or.inl ⟨h94, hT4, by dsimp only; simp only [pText]; rw [if_pos h4], by dsimp only; omega, Bd_0.mono (by dsimp only; omega) (by have := hT4.2.2.2.2.2.1; dsimp only; omega), Nat.zero_le _⟩⟩) rfl rfl ?_
      rintro ⟨u, m9, T, F⟩ hI66 ih66
      dsimp only at hI66 ih66 ⊢
      obtain ⟨hyu, hu5, hI9⟩ := hI66
      refine z_aload_n C dX6_readsText_66 0 rfl ?_
      refine zm_get_fault C hin (x := u 19) k129 dX6_readsText_67 rfl ?_
      refine zn_if_ne C 107 dX6_readsText_70 (by decide) (by omega) (fun h11 => ?_) (fun h12 => ?_)
      · exact z_vret C hr hk (u, m9) rfl ((hI9.resolve_left (fun q => by have := q.1; omega)).elim (fun h1 h2 => Or.inl ⟨u 19, u 20, h2, rfl, rfl, h1, hu5, hyu⟩)) (List.Perm.of_eq rfl) dX6_readsText_107 (Nat.le_refl _) (Nat.le_refl _)
      · obtain ⟨hu, hTu, hR, hF, hBm, h99⟩ := hI9.resolve_right (fun q => by have := q.1; omega)
        obtain ⟨F1, rfl⟩ : ∃ F1, F = F1 + 1 := ⟨F - 1, by have := hTu.2.2.2.2.2.1; omega⟩
        have hTl := hTu.2.2.2.2.2.1
        have hk5 := hTu.2.1
        have hk4 := hTu.2.2.2.2.2.2.2
        refine z_aload_n C dX6_readsText_73 0 rfl ?_
        refine zm_get_kind C hin (x := u 15) k101 dX6_readsText_74 rfl ?_
        refine zn_if_eq C 107 dX6_readsText_77 (by decide) (by omega) (fun h13 => ?_) (fun h14 => ?_)
        · exact z_vret C hr hk (u, m9) rfl (Or.inr ⟨by rw [← hR]; simp only [pLoop]; rw [if_pos (by omega)], hu, hyu⟩) (List.Perm.of_eq rfl) dX6_readsText_107 (Nat.le_refl _) (Nat.le_refl _)
        · refine z_aload_n C dX6_readsText_80 0 rfl ?_
          refine zm_get_kind C hin (x := u 15) k101 dX6_readsText_81 rfl ?_
          refine z_iconst (v := nI 3) C dX6_readsText_84 (by decide) ?_
          refine zn_icmp_ne C 99 dX6_readsText_85 (by decide) (by omega) (by omega) (fun h15 => ?_) (fun h16 => ?_)
          · refine z_aload_n C dX6_readsText_99 0 rfl ?_
            refine z_iconst (v := nI 1) C dX6_readsText_100 (by decide) ?_
            refine zm_call C (mX6_errs_0 l D κ Ad _ _ _ _ _ _ _ _ 1 (show u 19 = 0 by omega)) gX6_readsText_X6_errs rfl rfl rfl hdX6_errs ⟨Nat.le_of_ble_eq_true rfl, Nat.le_of_ble_eq_true rfl⟩ rfl (Nat.le_of_ble_eq_true rfl) dX6_readsText_101 ⟨Nat.zero_le _, Nat.zero_le _⟩ ?_
            refine z_goto (tgt := 66) C dX6_readsText_104 (by decide) ?_
            refine z_lv [0] rfl ?_
            exact ih66 (upN (upN u 19 1) 20 (u 16), m9, T, 0) ⟨(hyu.up (by decide)).up (by decide), (show (1 : Nat) ≤ 5 by decide), Or.inr ⟨(show (0 : Nat) < 1 by decide), by dsimp only; rw [← hR]; simp only [pLoop]; rw [if_neg (by omega), if_neg (by omega)]; exact congrArg (fun q => Sum.inl (1, q)) hTu.2.2.1.symm⟩⟩ (by show (if (1 : Nat) = 0 then 0 else 0) < (if u 19 = 0 then F1 + 1 else 0); rw [if_neg (by decide), if_pos hu]; omega)
          · refine z_aload_n C dX6_readsText_88 0 rfl ?_
            refine zm_callV C (mX6_next l D κ Ad _ _ _ _ _ _ _ _ n T hTu hn) gX6_readsText_X6_next rfl rfl rfl hdX6_next ⟨Nat.le_of_ble_eq_true rfl, Nat.le_of_ble_eq_true rfl⟩ rfl (Nat.le_of_ble_eq_true rfl) dX6_readsText_89 ⟨Nat.zero_le _, Nat.zero_le _⟩ (fun v5 hv5 => ?_)
            obtain ⟨hT5, hf5, ho5, hz5⟩ := hv5
            have h95 : v5 19 = 0 := by omega
            refine z_aload_n C dX6_readsText_92 0 rfl ?_
            refine zm_callVN C (mX6_readsLine l D κ Ad _ _ _ _ _ _ _ _ (20 + 1100 * T.2.2) n (nxT ip n T) hBm hT5 hn (show v5 19 = 0 by omega) (by omega) (by omega)) gX6_readsText_X6_readsLine rfl rfl rfl hdX6_readsLine ⟨Nat.le_of_ble_eq_true rfl, Nat.le_of_ble_eq_true rfl⟩ rfl (Nat.le_of_ble_eq_true rfl) dX6_readsText_93 ⟨Nat.zero_le _, Nat.zero_le _⟩ (fun v6 n6 hv6 => ?_)
            rcases hv6 with ⟨c6, o6, hp6, h96, h86, hc6, hd6, hz6⟩ | ⟨T6, hp6, h96, hT6, hz6⟩
            · refine z_goto (tgt := 66) C dX6_readsText_96 (by decide) ?_
              refine z_lv [0] rfl ?_
              exact ih66 (v6, n6, T, 0) ⟨hyu.tr (hz5.y.tr hz6.y), by dsimp only; omega, Or.inr ⟨by dsimp only; omega, by dsimp only; rw [← hR]; simp only [pLoop]; rw [if_neg (by omega), if_pos (by omega), hp6, bdS_l, h96, h86]⟩⟩ (by dsimp only; rw [if_neg (by omega), if_pos hu]; omega)
            · have hg6 := pLine_go hBm (by omega) h99 hTl hp6
              dsimp only at hg6
              refine z_goto (tgt := 66) C dX6_readsText_96 (by decide) ?_
              refine z_lv [0] rfl ?_
              exact ih66 (v6, n6, T6, F1) ⟨hyu.tr (hz5.y.tr hz6.y), by dsimp only; omega, Or.inl ⟨h96, hT6, by dsimp only; rw [← hR]; simp only [pLoop]; rw [if_neg (by omega), if_pos (by omega), hp6, bdS_r], by dsimp only; omega, hg6.2.2.1.mono (by dsimp only; omega) (by have := hg6.2.1; dsimp only; omega), hg6.2.2.2⟩⟩ (by dsimp only; rw [if_pos h96, if_pos hu]; omega)
  · refine z_aload_n C dX6_readsText_9 0 rfl ?_
    refine zm_get_now C hin k13 dX6_readsText_10 ?_
    refine z_iload_n C dX6_readsText_13 2 rfl ?_
    refine z_iconst (v := nI 0) C dX6_readsText_14 (by decide) ?_
    refine zm_ast_now C (by omega) dX6_readsText_15 ?_
    refine zn_iinc (n := 1) C [(2, .int (nI (k + 1))), (0, .ref (Ad 0)), (1, .int (nI n))] dX6_readsText_16 2 rfl (by decide) rfl ?_
    refine z_goto (tgt := 2) C dX6_readsText_19 (by decide) ?_
    refine z_lv [1, 2, 0] rfl ?_
    exact ih2 (k + 1, upN τ k 0) ⟨by dsimp only; omega, fun j => by dsimp only; exact cp_step (src := fun _ => 0) hk2 rfl j⟩ (by dsimp only; omega)
theorem hdX6_readsText : yX6_readsText.cls = RX6 ∧ yX6_readsText.cls ≠ "java/lang/invoke/MethodHandle" ∧ yX6_readsText.cls ≠ "java/lang/invoke/VarHandle" ∧ (parseMethodDescriptor yX6_readsText.desc).map (fun d => d.parameters.length) = some 1 := by decide +kernel
end M15
