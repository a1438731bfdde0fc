section M11
set_option maxRecDepth 100000 in
set_option maxHeartbeats 4000000 in
theorem mX6_next_w (l : Launch) (D : va_G) (κ : Nat → ClassId) (Ad : Nat → Nat) (eo : Int32) (ip : Nat → Int32) (v nw aw od sv ot : Nat → Nat) (n : Nat) (T : Tok) (hT : TV0 n v T) (hn : n ≤ 600) : mV l yX6_next wsX6_next { frames := 2, cells := 0, slots := 0, locals := 41 } D κ Ad [] eo ip v nw aw od sv ot none (fun v9 => TV ip n v9 (nxT ip n T) ∧ v9 19 = v 19 ∧ v9 20 = v 20 ∧ Fz v v9) := by
  refine zM_of (cc := cX6_next) (maxL := 3) (rt := none) [(0, .ref (Ad 0))] (by decide +kernel) rfl (Nat.le_of_ble_eq_true rfl) rfl ?_
  intro p e s m args below meth c A C hr hk hnm
  have C : zC p s m args c cX6_next 3 wsX6_next RX6 D (zTy κ) A := C
  have hin : ∀ w ∈ wsX60, w ∈ wsX6_next := fun w h => List.mem_cons_of_mem _ (List.mem_append_right _ h)
  have k101 : Cond.fieldLink RX6 101 "PeatRailwayModel" "kind" "I" ∈ wsX6_next := by decide +kernel
  have k104 : Cond.fieldLink RX6 104 "PeatRailwayModel" "to" "I" ∈ wsX6_next := by decide +kernel
  have k107 : Cond.fieldLink RX6 107 "PeatRailwayModel" "from" "I" ∈ wsX6_next := by decide +kernel
  have k110 : Cond.fieldLink RX6 110 "PeatRailwayModel" "textEnd" "I" ∈ wsX6_next := by decide +kernel
  have k25 : Cond.fieldLink RX6 25 "PeatRailwayModel" "input" "[B" ∈ wsX6_next := by decide +kernel
  obtain ⟨e14, e15, e17, hTn, hTk⟩ := id hT
  obtain ⟨T1, T2, T3⟩ := T
  dsimp only at hT e15 e17 hTn hTk
  obtain rfl : v 14 = n := e14
  refine z_cut (α := Bool) (fun g0 => g0 = (decide (T1 = 1) || decide (T1 = 2))) (fun g0 => MW κ Ad eo ip v nw aw od sv ot) (fun g0 => [(0, .ref (Ad 0)), (1, .int (nI (g0).toNat))]) (fun g0 => []) 22 (fun g0 hx22 => ?_) (fun cut22 => ?_)
  · refine z_aload_n C dX6_next_22 0 rfl ?_
    refine z_aload_n C dX6_next_23 0 rfl ?_
    refine zm_get_to C hin (x := v 17) k104 dX6_next_24 rfl ?_
    refine zm_put_from C hin k107 dX6_next_27 ?_
    refine z_cut (α := Unit) (fun _z => True) (fun _z => MW κ Ad eo ip (upN v 16 (tkF ip (v 14) T3)) nw aw od sv ot) (fun _z => [(0, .ref (Ad 0)), (1, .int (nI (g0).toNat))]) (fun _z => []) 82 (fun _z hx82 => ?_) (fun cut82 => ?_)
    · have hF1 : tkF ip (v 14) T3 ≤ v 14 := tkF_le hTn
      have hF2 : T3 ≤ tkF ip (v 14) T3 := tkF_ge
      have hA := tkT_le (ip := ip) hTn
      have hB9 := tkT_ge (ip := ip) (n := v 14) (p := T3)
      have hC := tkK_le ip (v 14) T1 T3
      refine z_cut (α := Bool) (fun g => g = tkG ip (v 14) T1 T3) (fun g => MW κ Ad eo ip (upN v 16 (tkF ip (v 14) T3)) nw aw od sv ot) (fun g => [(0, .ref (Ad 0)), (2, .int (nI (g).toNat))]) (fun g => []) 103 (fun g hx103 => ?_) (fun cut103 => ?_)
      · refine z_aload_n C dX6_next_103 0 rfl ?_
        refine z_aload_n C dX6_next_104 0 rfl ?_
        refine zm_get_from C hin (x := tkF ip (v 14) T3) k107 dX6_next_105 rfl ?_
        refine zm_put_to C hin k104 dX6_next_108 ?_
        refine z_aload_n C dX6_next_111 0 rfl ?_
        refine zm_get_from C hin (x := tkF ip (v 14) T3) k107 dX6_next_112 rfl ?_
        refine z_aload_n C dX6_next_115 0 rfl ?_
        refine zm_get_textEnd C hin (x := v 14) k110 dX6_next_116 rfl ?_
        refine zn_icmp_ne C 130 dX6_next_119 (by decide) (by omega) (by omega) (fun h1 => ?_) (fun h2 => ?_)
        · refine z_aload_n C dX6_next_130 0 rfl ?_
          refine zm_get_input C hin k25 dX6_next_131 ?_
          refine z_aload_n C dX6_next_134 0 rfl ?_
          refine zm_get_from C hin (x := tkF ip (v 14) T3) k107 dX6_next_135 rfl ?_
          refine zm_ald_input C (by omega) dX6_next_138 ?_
          refine zs_call C (mX6_isLetter l D κ ((ip (tkF ip (v 14) T3)))) gX6_next_X6_isLetter rfl rfl rfl hdX6_isLetter ⟨Nat.le_of_ble_eq_true rfl, Nat.le_of_ble_eq_true rfl⟩ rfl (Nat.le_of_ble_eq_true rfl) dX6_next_139 ⟨Nat.zero_le _, Nat.zero_le _⟩ ?_
          refine zb_if_eq C 153 dX6_next_142 (by decide) (fun h3 => ?_) (fun h4 => ?_)
          · refine z_aload_n C dX6_next_153 0 rfl ?_
            refine zm_get_input C hin k25 dX6_next_154 ?_
            refine z_aload_n C dX6_next_157 0 rfl ?_
            refine zm_get_from C hin (x := tkF ip (v 14) T3) k107 dX6_next_158 rfl ?_
            refine zm_ald_input C (by omega) dX6_next_161 ?_
            refine zs_call C (mX6_isDigit l D κ ((ip (tkF ip (v 14) T3)))) gX6_next_X6_isDigit rfl rfl rfl hdX6_isDigit ⟨Nat.le_of_ble_eq_true rfl, Nat.le_of_ble_eq_true rfl⟩ rfl (Nat.le_of_ble_eq_true rfl) dX6_next_162 ⟨Nat.zero_le _, Nat.zero_le _⟩ ?_
            refine zb_if_eq C 176 dX6_next_165 (by decide) (fun h5 => ?_) (fun h6 => ?_)
            · refine z_aload_n C dX6_next_176 0 rfl ?_
              refine z_aload_n C dX6_next_177 0 rfl ?_
              refine zm_get_from C hin (x := tkF ip (v 14) T3) k107 dX6_next_178 rfl ?_
              refine z_iconst (v := nI 1) C dX6_next_181 (by decide) ?_
              refine zn_iadd C dX6_next_182 ?_
              refine zm_put_to C hin k104 dX6_next_183 ?_
              refine z_aload_n C dX6_next_186 0 rfl ?_
              refine z_aload_n C dX6_next_187 0 rfl ?_
              refine zm_get_input C hin k25 dX6_next_188 ?_
              refine z_aload_n C dX6_next_191 0 rfl ?_
              refine zm_get_from C hin (x := tkF ip (v 14) T3) k107 dX6_next_192 rfl ?_
              refine zm_ald_input C (by omega) dX6_next_195 ?_
              refine z_bipush (v := nI 59) C dX6_next_196 (by decide) ?_
              refine z_icmp_ne C 205 dX6_next_198 (by decide) (fun h7 => ?_) (fun h8 => ?_)
              · refine z_iconst (v := nI 4) C dX6_next_205 (by decide) ?_
                refine zm_put_kind C hin k101 dX6_next_206 ?_
                have hT9 : tkT ip (v 14) T3 = tkF ip (v 14) T3 + 1 := by simp only [tkT]; rw [if_neg (by omega), if_neg (by rw [h3]; decide), if_neg (by rw [h5]; decide)]
                have hK9 : tkK ip (v 14) T1 T3 = 4 := by simp only [tkK]; rw [if_neg (by omega), if_neg (by rw [h3]; decide), if_neg (by rw [h5]; decide), if_neg h7]
                exact z_vret C hr hk (upN (upN (upN (upN v 16 (tkF ip (v 14) T3)) 17 (tkF ip (v 14) T3)) 17 ((tkF ip (v 14) T3) + 1)) 15 4) rfl (⟨⟨rfl, hK9.symm, rfl, hT9.symm, fun q => absurd (hK9.symm.trans q) (by decide), hA, hB9, hC⟩, rfl, rfl, fun j hj => by show (upN (upN (upN (upN v 16 (tkF ip (v 14) T3)) 17 (tkF ip (v 14) T3)) 17 ((tkF ip (v 14) T3) + 1)) 15 4) j = v j; rw [upN_n (by omega), upN_n (by omega), upN_n (by omega), upN_n (by omega)]⟩) (List.Perm.of_eq rfl) dX6_next_209 (Nat.le_refl _) (Nat.le_refl _)
              · refine z_iconst (v := nI 3) C dX6_next_201 (by decide) ?_
                refine z_goto (tgt := 206) C dX6_next_202 (by decide) ?_
                refine zm_put_kind C hin k101 dX6_next_206 ?_
                have hT9 : tkT ip (v 14) T3 = tkF ip (v 14) T3 + 1 := by simp only [tkT]; rw [if_neg (by omega), if_neg (by rw [h3]; decide), if_neg (by rw [h5]; decide)]
                have hK9 : tkK ip (v 14) T1 T3 = 3 := by simp only [tkK]; rw [if_neg (by omega), if_neg (by rw [h3]; decide), if_neg (by rw [h5]; decide), if_pos h8]
                exact z_vret C hr hk (upN (upN (upN (upN v 16 (tkF ip (v 14) T3)) 17 (tkF ip (v 14) T3)) 17 ((tkF ip (v 14) T3) + 1)) 15 3) rfl (⟨⟨rfl, hK9.symm, rfl, hT9.symm, fun q => absurd (hK9.symm.trans q) (by decide), hA, hB9, hC⟩, rfl, rfl, fun j hj => by show (upN (upN (upN (upN v 16 (tkF ip (v 14) T3)) 17 (tkF ip (v 14) T3)) 17 ((tkF ip (v 14) T3) + 1)) 15 3) j = v j; rw [upN_n (by omega), upN_n (by omega), upN_n (by omega), upN_n (by omega)]⟩) (List.Perm.of_eq rfl) dX6_next_209 (Nat.le_refl _) (Nat.le_refl _)
            · refine z_aload_n C dX6_next_168 0 rfl ?_
              refine z_iload_n C dX6_next_169 1 rfl ?_
              refine zm_call C (mX6_scansNumber l D κ Ad _ _ _ _ _ _ _ _ g (show v 14 ≤ 600 by omega) (show tkF ip (v 14) T3 ≤ v 14 by omega) (show tkF ip (v 14) T3 = tkF ip (v 14) T3 by omega)) gX6_next_X6_scansNumber rfl rfl rfl hdX6_scansNumber ⟨Nat.le_of_ble_eq_true rfl, Nat.le_of_ble_eq_true rfl⟩ rfl (Nat.le_of_ble_eq_true rfl) dX6_next_170 ⟨Nat.zero_le _, Nat.zero_le _⟩ ?_
              refine z_goto (tgt := 209) C dX6_next_173 (by decide) ?_
              have hT9 : tkT ip (v 14) T3 = scn isDg ip (v 14 - (tkF ip (v 14) T3)) (tkF ip (v 14) T3) := by simp only [tkT]; rw [if_neg (by omega), if_neg (by rw [h3]; decide), if_pos h6]
              have hK9 : tkK ip (v 14) T1 T3 = if g = true ∨ 3 < scn isDg ip (v 14 - (tkF ip (v 14) T3)) (tkF ip (v 14) T3) - (tkF ip (v 14) T3) then 4 else 2 := by simp only [tkK]; rw [if_neg (by omega), if_neg (by rw [h3]; decide), if_pos h6, ← hx103, hT9]
              have hv9 : numV ip (tkF ip (v 14) T3) (min (scn isDg ip (v 14 - (tkF ip (v 14) T3)) (tkF ip (v 14) T3) - (tkF ip (v 14) T3)) 3) ≤ 999 := by
                have h9 : numV ip (tkF ip (v 14) T3) (min (scn isDg ip (v 14 - (tkF ip (v 14) T3)) (tkF ip (v 14) T3) - (tkF ip (v 14) T3)) 3) < 10 ^ (min (scn isDg ip (v 14 - (tkF ip (v 14) T3)) (tkF ip (v 14) T3) - (tkF ip (v 14) T3)) 3) := numV_le _ (fun j hj => scn_all isDg ip (v 14 - tkF ip (v 14) T3) (tkF ip (v 14) T3) (tkF ip (v 14) T3 + j) (by omega) (by omega))
                have h8 : 10 ^ (min (scn isDg ip (v 14 - (tkF ip (v 14) T3)) (tkF ip (v 14) T3) - (tkF ip (v 14) T3)) 3) ≤ 10 ^ 3 := Nat.pow_le_pow_right (by decide) (by omega)
                omega
              exact z_vret C hr hk (upN (upN (upN (upN (upN v 16 (tkF ip (v 14) T3)) 17 (tkF ip (v 14) T3)) 18 (numV ip (tkF ip (v 14) T3) (min (scn isDg ip (v 14 - (tkF ip (v 14) T3)) (tkF ip (v 14) T3) - (tkF ip (v 14) T3)) 3))) 17 (scn isDg ip (v 14 - (tkF ip (v 14) T3)) (tkF ip (v 14) T3))) 15 (if g = true ∨ 3 < scn isDg ip (v 14 - (tkF ip (v 14) T3)) (tkF ip (v 14) T3) - (tkF ip (v 14) T3) then 4 else 2)) rfl (⟨⟨rfl, hK9.symm, rfl, hT9.symm, fun q => ⟨by have h2 := (tkK_2 (show tkK ip (v 14) T1 T3 = 2 from q)).1; show numV ip (tkF ip (v 14) T3) (min (scn isDg ip (v 14 - (tkF ip (v 14) T3)) (tkF ip (v 14) T3) - (tkF ip (v 14) T3)) 3) = numV ip (tkF ip (v 14) T3) (tkT ip (v 14) T3 - (tkF ip (v 14) T3)); rw [hT9] at h2 ⊢; exact congrArg (numV ip (tkF ip (v 14) T3)) (Nat.min_eq_left h2), hv9⟩, hA, hB9, hC⟩, rfl, rfl, fun j hj => by show (upN (upN (upN (upN (upN v 16 (tkF ip (v 14) T3)) 17 (tkF ip (v 14) T3)) 18 (numV ip (tkF ip (v 14) T3) (min (scn isDg ip (v 14 - (tkF ip (v 14) T3)) (tkF ip (v 14) T3) - (tkF ip (v 14) T3)) 3))) 17 (scn isDg ip (v 14 - (tkF ip (v 14) T3)) (tkF ip (v 14) T3))) 15 (if g = true ∨ 3 < scn isDg ip (v 14 - (tkF ip (v 14) T3)) (tkF ip (v 14) T3) - (tkF ip (v 14) T3) then 4 else 2)) j = v j; rw [upN_n (by omega), upN_n (by omega), upN_n (by omega), upN_n (by omega), upN_n (by omega)]⟩) (List.Perm.of_eq rfl) dX6_next_209 (Nat.le_refl _) (Nat.le_refl _)
          · refine z_aload_n C dX6_next_145 0 rfl ?_
            refine z_iload_n C dX6_next_146 1 rfl ?_
            refine zm_call C (mX6_scansWord l D κ Ad _ _ _ _ _ _ _ _ g (show v 14 ≤ 600 by omega) (show tkF ip (v 14) T3 ≤ v 14 by omega)) gX6_next_X6_scansWord rfl rfl rfl hdX6_scansWord ⟨Nat.le_of_ble_eq_true rfl, Nat.le_of_ble_eq_true rfl⟩ rfl (Nat.le_of_ble_eq_true rfl) dX6_next_147 ⟨Nat.zero_le _, Nat.zero_le _⟩ ?_
            refine z_goto (tgt := 209) C dX6_next_150 (by decide) ?_
            have hT9 : tkT ip (v 14) T3 = scn isLt ip (v 14 - tkF ip (v 14) T3) (tkF ip (v 14) T3) := by simp only [tkT]; rw [if_neg (by omega), if_pos h4]
            have hK9 : tkK ip (v 14) T1 T3 = if g = true then 4 else 1 := by simp only [tkK]; rw [if_neg (by omega), if_pos h4, ← hx103]
            exact z_vret C hr hk (upN (upN (upN (upN v 16 (tkF ip (v 14) T3)) 17 (tkF ip (v 14) T3)) 17 (scn isLt ip (v 14 - (tkF ip (v 14) T3)) (tkF ip (v 14) T3))) 15 (if g = true then 4 else 1)) rfl (⟨⟨rfl, hK9.symm, rfl, hT9.symm, fun q => absurd (hK9.symm.trans q) (by split <;> decide), hA, hB9, hC⟩, rfl, rfl, fun j hj => by show (upN (upN (upN (upN v 16 (tkF ip (v 14) T3)) 17 (tkF ip (v 14) T3)) 17 (scn isLt ip (v 14 - (tkF ip (v 14) T3)) (tkF ip (v 14) T3))) 15 (if g = true then 4 else 1)) j = v j; rw [upN_n (by omega), upN_n (by omega), upN_n (by omega), upN_n (by omega)]⟩) (List.Perm.of_eq rfl) dX6_next_209 (Nat.le_refl _) (Nat.le_refl _)
        · refine z_aload_n C dX6_next_122 0 rfl ?_
          refine z_iconst (v := nI 0) C dX6_next_123 (by decide) ?_
          refine zm_put_kind C hin k101 dX6_next_124 ?_
          refine z_goto (tgt := 209) C dX6_next_127 (by decide) ?_
          have hT9 : tkT ip (v 14) T3 = tkF ip (v 14) T3 := by simp only [tkT]; rw [if_pos (by omega)]
          have hK9 : tkK ip (v 14) T1 T3 = 0 := by simp only [tkK]; rw [if_pos (by omega)]
          exact z_vret C hr hk (upN (upN (upN v 16 (tkF ip (v 14) T3)) 17 (tkF ip (v 14) T3)) 15 0) rfl (⟨⟨rfl, hK9.symm, rfl, hT9.symm, fun q => absurd (hK9.symm.trans q) (by decide), hA, hB9, hC⟩, rfl, rfl, fun j hj => by show (upN (upN (upN v 16 (tkF ip (v 14) T3)) 17 (tkF ip (v 14) T3)) 15 0) j = v j; rw [upN_n (by omega), upN_n (by omega), upN_n (by omega)]⟩) (List.Perm.of_eq rfl) dX6_next_209 (Nat.le_refl _) (Nat.le_refl _)
      refine z_iload_n C dX6_next_82 1 rfl ?_
      refine zb_if_eq C 101 dX6_next_83 (by decide) (fun h9 => ?_) (fun h10 => ?_)
      · refine z_iconst (v := nI 0) C dX6_next_101 (by decide) ?_
        refine z_istore_n C [(2, .int (nI 0)), (0, .ref (Ad 0)), (1, .int (nI (g0).toNat))] dX6_next_102 (by decide) rfl ?_
        refine z_lv [1, 0] rfl ?_
        exact cut103 false (by simp only [tkG]; rw [← hx22, h9]; rfl)
      · refine z_aload_n C dX6_next_86 0 rfl ?_
        refine zm_get_from C hin (x := tkF ip (v 14) T3) k107 dX6_next_87 rfl ?_
        refine z_aload_n C dX6_next_90 0 rfl ?_
        refine zm_get_to C hin (x := v 17) k104 dX6_next_91 rfl ?_
        refine zn_icmp_ne C 101 dX6_next_94 (by decide) (by omega) (by omega) (fun h11 => ?_) (fun h12 => ?_)
        · refine z_iconst (v := nI 0) C dX6_next_101 (by decide) ?_
          refine z_istore_n C [(2, .int (nI 0)), (0, .ref (Ad 0)), (1, .int (nI (g0).toNat))] dX6_next_102 (by decide) rfl ?_
          refine z_lv [1, 0] rfl ?_
          exact cut103 false (by simp only [tkG]; rw [← hx22, h10, decide_eq_false (by omega)]; rfl)
        · refine z_iconst (v := nI 1) C dX6_next_97 (by decide) ?_
          refine z_goto (tgt := 102) C dX6_next_98 (by decide) ?_
          refine z_istore_n C [(2, .int (nI 1)), (0, .ref (Ad 0)), (1, .int (nI (g0).toNat))] dX6_next_102 (by decide) rfl ?_
          refine z_lv [1, 0] rfl ?_
          exact cut103 true (by simp only [tkG]; rw [← hx22, h10, decide_eq_true (by omega)]; rfl)
    refine z_lv [0, 1] rfl ?_
    refine z_loop (σ := Nat) (fun s0 => MW κ Ad eo ip (upN v 16 s0) nw aw od sv ot) (fun s0 => [(0, .ref (Ad 0)), (1, .int (nI (g0).toNat))]) (fun s0 => s0 ≤ v 14 ∧ T3 ≤ s0 ∧ scn isSp ip (v 14 - s0) s0 = tkF ip (v 14) T3) (fun s0 => v 14 - s0) (v 17) (⟨by omega, by omega, by rw [e17]; rfl⟩) rfl rfl ?_
    rintro s0 hI30 ih30
    obtain ⟨hk1, hk3, hk2⟩ := hI30
    refine z_aload_n C dX6_next_30 0 rfl ?_
    refine zm_get_from C hin (x := s0) k107 dX6_next_31 rfl ?_
    refine z_aload_n C dX6_next_34 0 rfl ?_
    refine zm_get_textEnd C hin (x := v 14) k110 dX6_next_35 rfl ?_
    refine zn_icmp_ge C 82 dX6_next_38 (by decide) (by omega) (by omega) (fun h13 => ?_) (fun h14 => ?_)
    · refine z_lv [0, 1] rfl ?_
      exact z_eq (cut82 () trivial) (show MW κ Ad eo ip (upN v 16 s0) nw aw od sv ot = MW κ Ad eo ip (upN v 16 (tkF ip (v 14) T3)) nw aw od sv ot by rw [← hk2, scn_no (Or.inl h13)]) rfl rfl rfl
    · refine z_aload_n C dX6_next_41 0 rfl ?_
      refine zm_get_input C hin k25 dX6_next_42 ?_
      refine z_aload_n C dX6_next_45 0 rfl ?_
      refine zm_get_from C hin (x := s0) k107 dX6_next_46 rfl ?_
      refine zm_ald_input C (by omega) dX6_next_49 ?_
      refine z_bipush (v := nI 32) C dX6_next_50 (by decide) ?_
      refine z_icmp_eq C 69 dX6_next_52 (by decide) (fun h15 => ?_) (fun h16 => ?_)
      · refine z_aload_n C dX6_next_69 0 rfl ?_
        refine z_dup C dX6_next_70 rfl ?_
        refine zm_get_from C hin (x := s0) k107 dX6_next_71 rfl ?_
        refine z_iconst (v := nI 1) C dX6_next_74 (by decide) ?_
        refine zn_iadd C dX6_next_75 ?_
        refine zm_put_from C hin k107 dX6_next_76 ?_
        refine z_goto (tgt := 30) C dX6_next_79 (by decide) ?_
        refine z_lv [0, 1] rfl ?_
        exact ih30 (s0 + 1) ⟨by omega, by omega, by rw [← hk2]; exact (scn_go (by omega) (by simp only [isSp]; rw [h15]; rfl)).symm⟩ (by omega)
      · refine z_aload_n C dX6_next_55 0 rfl ?_
        refine zm_get_input C hin k25 dX6_next_56 ?_
        refine z_aload_n C dX6_next_59 0 rfl ?_
        refine zm_get_from C hin (x := s0) k107 dX6_next_60 rfl ?_
        refine zm_ald_input C (by omega) dX6_next_63 ?_
        refine z_bipush (v := nI 10) C dX6_next_64 (by decide) ?_
        refine z_icmp_ne C 82 dX6_next_66 (by decide) (fun h17 => ?_) (fun h18 => ?_)
        · refine z_lv [0, 1] rfl ?_
          exact z_eq (cut82 () trivial) (show MW κ Ad eo ip (upN v 16 s0) nw aw od sv ot = MW κ Ad eo ip (upN v 16 (tkF ip (v 14) T3)) nw aw od sv ot by rw [← hk2, scn_no (Or.inr (by simp only [isSp]; rw [decide_eq_false h16, decide_eq_false h17]; rfl))]) rfl rfl rfl
        · refine z_aload_n C dX6_next_69 0 rfl ?_
          refine z_dup C dX6_next_70 rfl ?_
          refine zm_get_from C hin (x := s0) k107 dX6_next_71 rfl ?_
          refine z_iconst (v := nI 1) C dX6_next_74 (by decide) ?_
          refine zn_iadd C dX6_next_75 ?_
          refine zm_put_from C hin k107 dX6_next_76 ?_
          refine z_goto (tgt := 30) C dX6_next_79 (by decide) ?_
          refine z_lv [0, 1] rfl ?_
          exact ih30 (s0 + 1) ⟨by omega, by omega, by rw [← hk2]; exact (scn_go (by omega) (by simp only [isSp]; rw [h18]; rfl)).symm⟩ (by omega)
  refine z_aload_n C dX6_next_0 0 rfl ?_
  refine zm_get_kind C hin (x := v 15) k101 dX6_next_1 rfl ?_
  refine z_iconst (v := nI 1) C dX6_next_4 (by decide) ?_
  refine zn_icmp_eq C 16 dX6_next_5 (by decide) (by omega) (by omega) (fun h19 => ?_) (fun h20 => ?_)
  · refine z_iconst (v := nI 1) C dX6_next_16 (by decide) ?_
    refine z_goto (tgt := 21) C dX6_next_17 (by decide) ?_
    refine z_istore_n C [(1, .int (nI 1)), (0, .ref (Ad 0))] dX6_next_21 (by decide) rfl ?_
    refine z_lv [1, 0] rfl ?_
    exact cut22 true (by rw [show T1 = 1 from by omega]; rfl)
  · refine z_aload_n C dX6_next_8 0 rfl ?_
    refine zm_get_kind C hin (x := v 15) k101 dX6_next_9 rfl ?_
    refine z_iconst (v := nI 2) C dX6_next_12 (by decide) ?_
    refine zn_icmp_ne C 20 dX6_next_13 (by decide) (by omega) (by omega) (fun h21 => ?_) (fun h22 => ?_)
    · refine z_iconst (v := nI 0) C dX6_next_20 (by decide) ?_
      refine z_istore_n C [(1, .int (nI 0)), (0, .ref (Ad 0))] dX6_next_21 (by decide) rfl ?_
      refine z_lv [1, 0] rfl ?_
      exact cut22 false (by rw [decide_eq_false (show ¬ T1 = 1 by omega), decide_eq_false (show ¬ T1 = 2 by omega)]; rfl)
    · refine z_iconst (v := nI 1) C dX6_next_16 (by decide) ?_
      refine z_goto (tgt := 21) C dX6_next_17 (by decide) ?_
      refine z_istore_n C [(1, .int (nI 1)), (0, .ref (Ad 0))] dX6_next_21 (by decide) rfl ?_
      refine z_lv [1, 0] rfl ?_
      exact cut22 true (by rw [show T1 = 2 from by omega]; rfl)
theorem hdX6_next : yX6_next.cls = RX6 ∧ yX6_next.cls ≠ "java/lang/invoke/MethodHandle" ∧ yX6_next.cls ≠ "java/lang/invoke/VarHandle" ∧ (parseMethodDescriptor yX6_next.desc).map (fun d => d.parameters.length) = some 0 := by decide +kernel
theorem mX6_next (l : Launch) (D : va_G) (κ : Nat → ClassId) (Ad : Nat → Nat) (eo : Int32) (ip : Nat → Int32) (v nw aw od sv ot : Nat → Nat) (n : Nat) (T : Tok) (hT : TV ip n v T) (hn : n ≤ 600) : mV l yX6_next wsX6_next { frames := 2, cells := 0, slots := 0, locals := 41 } D κ Ad [] eo ip v nw aw od sv ot none (fun v9 => TV ip n v9 (nxT ip n T) ∧ v9 19 = v 19 ∧ v9 20 = v 20 ∧ Fz v v9) := mX6_next_w l D κ Ad eo ip v nw aw od sv ot n T hT.w hn
end M11
