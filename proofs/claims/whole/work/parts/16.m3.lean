section M3
set_option maxRecDepth 100000 in
set_option maxHeartbeats 4000000 in
theorem mX6_leaves (l : Launch) (D : va_G) (κ : Nat → ClassId) (Ad : Nat → Nat) (eo : Int32) (ip : Nat → Int32) (v nw aw od sv ot : Nat → Nat) (M : Nat) (t : Nat) (hB : Bd M nw) (ht : t < nw 2) (hM3 : M + 2 < 1073741824) : mM l yX6_leaves wsX6_leaves { frames := 2, cells := 0, slots := 0, locals := 42 } D κ Ad [.int (nI t)] eo ip v nw aw od sv ot none eo ip v (lvs nw t) aw od sv ot := by
  refine zM_of (cc := cX6_leaves) (maxL := 5) (rt := none) [(0, .ref (Ad 0)), (1, .int (nI t))] (by decide +kernel) rfl (Nat.le_of_ble_eq_true rfl) rfl ?_
  intro p e s m args below meth c A C hr hk hnm
  have C : zC p s m args c cX6_leaves 5 wsX6_leaves RX6 D (zTy κ) A := C
  have hin : ∀ w ∈ wsX60, w ∈ wsX6_leaves := fun w h => List.mem_cons_of_mem _ (List.mem_append_right _ h)
  have k13 : Cond.fieldLink RX6 13 "PeatRailwayModel" "now" "[I" ∈ wsX6_leaves := by decide +kernel
  obtain ⟨hM1, hM2, ht0, hnb, hnt, hj, hp⟩ := id hB
  obtain ⟨b, hbe⟩ : ∃ b, b = nw (65 + 5 * t + 2) := ⟨_, rfl⟩
  have hb1 : b < nw 1 := by rw [hbe]; exact hB.p ht
  have hsp := spd_le hB ht
  refine z_aload_n C dX6_leaves_0 0 rfl ?_
  refine zm_get_now C hin k13 dX6_leaves_1 ?_
  refine z_iload_n C dX6_leaves_4 1 rfl ?_
  refine zs_call C (mX6_t l D κ t) gX6_leaves_X6_t rfl rfl rfl hdX6_t ⟨Nat.le_of_ble_eq_true rfl, Nat.le_of_ble_eq_true rfl⟩ rfl (Nat.le_of_ble_eq_true rfl) dX6_leaves_5 ⟨Nat.zero_le _, Nat.zero_le _⟩ ?_
  refine z_iconst (v := nI 2) C dX6_leaves_8 (by decide) ?_
  refine zn_iadd C dX6_leaves_9 ?_
  refine zm_ald_now C (by omega) dX6_leaves_10 ?_
  have g1 : nw ((65 + 5 * t) + 2) ≤ M := hB.j (by omega) (by omega)
  have q2 : nw ((65 + 5 * t) + 2) < nw 1 := hB.p (t := t) (by omega)
  rw [← hbe]
  refine z_istore_n C [(2, .int (nI b)), (0, .ref (Ad 0)), (1, .int (nI t))] dX6_leaves_11 (by decide) rfl ?_
  refine z_cut (α := Unit) (fun _z => True) (fun _z => MW κ Ad eo ip v (lvs1 nw t b) aw od sv ot) (fun _z => [(0, .ref (Ad 0)), (1, .int (nI t)), (2, .int (nI b))]) (fun _z => []) 92 (fun _z hx92 => ?_) (fun cut92 => ?_)
  · have hB1 : Bd (M + 1) (lvs1 nw t b) := lvs1_bd hB (by omega) ht (by omega)
    refine z_aload_n C dX6_leaves_92 0 rfl ?_
    refine zm_get_now C hin k13 dX6_leaves_93 ?_
    refine z_iload_n C dX6_leaves_96 2 rfl ?_
    refine zs_call C (mX6_b l D κ b) gX6_leaves_X6_b rfl rfl rfl hdX6_b ⟨Nat.le_of_ble_eq_true rfl, Nat.le_of_ble_eq_true rfl⟩ rfl (Nat.le_of_ble_eq_true rfl) dX6_leaves_97 ⟨Nat.zero_le _, Nat.zero_le _⟩ ?_
    refine z_iconst (v := nI 1) C dX6_leaves_100 (by decide) ?_
    refine zn_iadd C dX6_leaves_101 ?_
    refine zm_ald_now C (by omega) dX6_leaves_102 ?_
    have g3 : (lvs1 nw t b) ((5 + 6 * b) + 1) ≤ M + 1 := hB1.j (by omega) (by omega)
    refine z_iconst (v := nI 1) C dX6_leaves_103 (by decide) ?_
    refine zn_iadd C dX6_leaves_104 ?_
    refine z_aload_n C dX6_leaves_105 0 rfl ?_
    refine zm_get_now C hin k13 dX6_leaves_106 ?_
    refine z_iload_n C dX6_leaves_109 1 rfl ?_
    refine zs_call C (mX6_t l D κ t) gX6_leaves_X6_t rfl rfl rfl hdX6_t ⟨Nat.le_of_ble_eq_true rfl, Nat.le_of_ble_eq_true rfl⟩ rfl (Nat.le_of_ble_eq_true rfl) dX6_leaves_110 ⟨Nat.zero_le _, Nat.zero_le _⟩ ?_
    refine z_iconst (v := nI 0) C dX6_leaves_113 (by decide) ?_
    refine zn_iadd C dX6_leaves_114 ?_
    refine zm_ald_now C (by omega) dX6_leaves_115 ?_
    have g4 : (lvs1 nw t b) ((65 + 5 * t) + 0) ≤ M + 1 := hB1.j (by omega) (by omega)
    refine z_iconst (v := nI 4) C dX6_leaves_116 (by decide) ?_
    refine zn_idiv C dX6_leaves_117 (by omega) (by omega) (by omega) ?_
    refine zn_iadd C dX6_leaves_118 ?_
    refine z_istore C [(4, .int (nI ((((lvs1 nw t b) ((5 + 6 * b) + 1)) + 1) + (((lvs1 nw t b) ((65 + 5 * t) + 0)) / 4)))), (0, .ref (Ad 0)), (1, .int (nI t)), (2, .int (nI b))] dX6_leaves_119 (by decide) rfl ?_
    refine z_iload C dX6_leaves_121 0 rfl ?_
    refine z_bipush (v := nI 9) C dX6_leaves_123 (by decide) ?_
    refine zn_icmp_le C 132 dX6_leaves_125 (by decide) (by omega) (by omega) (fun h5 => ?_) (fun h6 => ?_)
    · refine z_aload_n C dX6_leaves_132 1 rfl ?_
      refine zm_get_now C hin k13 dX6_leaves_133 ?_
      refine z_iload_n C dX6_leaves_136 3 rfl ?_
      refine zs_call C (mX6_b l D κ b) gX6_leaves_X6_b rfl rfl rfl hdX6_b ⟨Nat.le_of_ble_eq_true rfl, Nat.le_of_ble_eq_true rfl⟩ rfl (Nat.le_of_ble_eq_true rfl) dX6_leaves_137 ⟨Nat.zero_le _, Nat.zero_le _⟩ ?_
      refine z_iconst (v := nI 1) C dX6_leaves_140 (by decide) ?_
      refine zn_iadd C dX6_leaves_141 ?_
      refine z_iload C dX6_leaves_142 0 rfl ?_
      refine zm_ast_now C (by omega) dX6_leaves_144 ?_
      refine z_aload_n C dX6_leaves_145 1 rfl ?_
      refine zm_get_now C hin k13 dX6_leaves_146 ?_
      refine z_iload_n C dX6_leaves_149 2 rfl ?_
      refine z_iload_n C dX6_leaves_150 3 rfl ?_
      refine zs_call C (mX6_passed l D κ t b) gX6_leaves_X6_passed rfl rfl rfl hdX6_passed ⟨Nat.le_of_ble_eq_true rfl, Nat.le_of_ble_eq_true rfl⟩ rfl (Nat.le_of_ble_eq_true rfl) dX6_leaves_151 ⟨Nat.zero_le _, Nat.zero_le _⟩ ?_
      refine z_dup2 C dX6_leaves_154 rfl rfl ?_
      refine zm_ald_now C (by omega) dX6_leaves_155 ?_
      refine z_iconst (v := nI 1) C dX6_leaves_156 (by decide) ?_
      refine zn_iadd C dX6_leaves_157 ?_
      refine zm_ast_now C (by omega) dX6_leaves_158 ?_
      exact z_vret C hr hk () (rfl) trivial (List.Perm.of_eq (congrArg (fun n => MW κ Ad eo ip v n aw od sv ot) (show upN (upN (lvs1 nw t b) ((5 + 6 * b) + 1) ((((lvs1 nw t b) ((5 + 6 * b) + 1)) + 1) + (((lvs1 nw t b) ((65 + 5 * t) + 0)) / 4))) (90 + 10 * t + b) (((upN (lvs1 nw t b) ((5 + 6 * b) + 1) ((((lvs1 nw t b) ((5 + 6 * b) + 1)) + 1) + (((lvs1 nw t b) ((65 + 5 * t) + 0)) / 4))) (90 + 10 * t + b)) + 1) = lvs nw t by simp only [lvs, lvs2, ← hbe]; rw [if_neg (by omega), upN_n (by omega)]))) dX6_leaves_159 (Nat.le_refl _) (Nat.le_refl _)
    · refine z_bipush (v := nI 9) C dX6_leaves_128 (by decide) ?_
      refine z_istore C [(4, .int (nI 9)), (0, .ref (Ad 0)), (1, .int (nI t)), (2, .int (nI b))] dX6_leaves_130 (by decide) rfl ?_
      refine z_aload_n C dX6_leaves_132 1 rfl ?_
      refine zm_get_now C hin k13 dX6_leaves_133 ?_
      refine z_iload_n C dX6_leaves_136 3 rfl ?_
      refine zs_call C (mX6_b l D κ b) gX6_leaves_X6_b rfl rfl rfl hdX6_b ⟨Nat.le_of_ble_eq_true rfl, Nat.le_of_ble_eq_true rfl⟩ rfl (Nat.le_of_ble_eq_true rfl) dX6_leaves_137 ⟨Nat.zero_le _, Nat.zero_le _⟩ ?_
      refine z_iconst (v := nI 1) C dX6_leaves_140 (by decide) ?_
      refine zn_iadd C dX6_leaves_141 ?_
      refine z_iload C dX6_leaves_142 0 rfl ?_
      refine zm_ast_now C (by omega) dX6_leaves_144 ?_
      refine z_aload_n C dX6_leaves_145 1 rfl ?_
      refine zm_get_now C hin k13 dX6_leaves_146 ?_
      refine z_iload_n C dX6_leaves_149 2 rfl ?_
      refine z_iload_n C dX6_leaves_150 3 rfl ?_
      refine zs_call C (mX6_passed l D κ t b) gX6_leaves_X6_passed rfl rfl rfl hdX6_passed ⟨Nat.le_of_ble_eq_true rfl, Nat.le_of_ble_eq_true rfl⟩ rfl (Nat.le_of_ble_eq_true rfl) dX6_leaves_151 ⟨Nat.zero_le _, Nat.zero_le _⟩ ?_
      refine z_dup2 C dX6_leaves_154 rfl rfl ?_
      refine zm_ald_now C (by omega) dX6_leaves_155 ?_
      refine z_iconst (v := nI 1) C dX6_leaves_156 (by decide) ?_
      refine zn_iadd C dX6_leaves_157 ?_
      refine zm_ast_now C (by omega) dX6_leaves_158 ?_
      exact z_vret C hr hk () (rfl) trivial (List.Perm.of_eq (congrArg (fun n => MW κ Ad eo ip v n aw od sv ot) (show upN (upN (lvs1 nw t b) ((5 + 6 * b) + 1) 9) (90 + 10 * t + b) (((upN (lvs1 nw t b) ((5 + 6 * b) + 1) 9) (90 + 10 * t + b)) + 1) = lvs nw t by simp only [lvs, lvs2, ← hbe]; rw [if_pos (by omega), upN_n (by omega)]))) dX6_leaves_159 (Nat.le_refl _) (Nat.le_refl _)
  refine z_aload_n C dX6_leaves_12 1 rfl ?_
  refine zm_get_now C hin k13 dX6_leaves_13 ?_
  refine z_iload_n C dX6_leaves_16 0 rfl ?_
  refine zs_call C (mX6_b l D κ b) gX6_leaves_X6_b rfl rfl rfl hdX6_b ⟨Nat.le_of_ble_eq_true rfl, Nat.le_of_ble_eq_true rfl⟩ rfl (Nat.le_of_ble_eq_true rfl) dX6_leaves_17 ⟨Nat.zero_le _, Nat.zero_le _⟩ ?_
  refine z_iconst (v := nI 1) C dX6_leaves_20 (by decide) ?_
  refine zn_iadd C dX6_leaves_21 ?_
  refine zm_ald_now C (by omega) dX6_leaves_22 ?_
  have g7 : nw ((5 + 6 * b) + 1) ≤ M := hB.j (by omega) (by omega)
  refine z_bipush (v := nI 7) C dX6_leaves_23 (by decide) ?_
  refine zn_icmp_lt C 56 dX6_leaves_25 (by decide) (by omega) (by omega) (fun h8 => ?_) (fun h9 => ?_)
  · refine z_iconst (v := nI 0) C dX6_leaves_56 (by decide) ?_
    refine z_istore_n C [(3, .int (nI 0)), (2, .int (nI b)), (0, .ref (Ad 0)), (1, .int (nI t))] dX6_leaves_57 (by decide) rfl ?_
    refine z_iload_n C dX6_leaves_58 0 rfl ?_
    refine z_if_eq C 92 dX6_leaves_59 (by decide) (fun _ => ?_) (fun q => absurd (by decide) q)
    refine z_lv [2, 3, 1] rfl ?_
    exact z_eq (cut92 () trivial) (congrArg (fun n => MW κ Ad eo ip v n aw od sv ot) (show nw = lvs1 nw t b by simp only [lvs1]; rw [if_neg (by omega)])) rfl rfl rfl
  · refine z_aload_n C dX6_leaves_28 1 rfl ?_
    refine z_iload_n C dX6_leaves_29 2 rfl ?_
    refine zm_call C (mX6_speed l D κ Ad _ _ _ _ _ _ _ _ M t hB (by omega)) gX6_leaves_X6_speed rfl rfl rfl hdX6_speed ⟨Nat.le_of_ble_eq_true rfl, Nat.le_of_ble_eq_true rfl⟩ rfl (Nat.le_of_ble_eq_true rfl) dX6_leaves_30 ⟨Nat.zero_le _, Nat.zero_le _⟩ ?_
    refine z_iconst (v := nI 3) C dX6_leaves_33 (by decide) ?_
    refine zn_icmp_lt C 56 dX6_leaves_34 (by decide) (by omega) (by omega) (fun h10 => ?_) (fun h11 => ?_)
    · refine z_iconst (v := nI 0) C dX6_leaves_56 (by decide) ?_
      refine z_istore_n C [(3, .int (nI 0)), (2, .int (nI b)), (0, .ref (Ad 0)), (1, .int (nI t))] dX6_leaves_57 (by decide) rfl ?_
      refine z_iload_n C dX6_leaves_58 0 rfl ?_
      refine z_if_eq C 92 dX6_leaves_59 (by decide) (fun _ => ?_) (fun q => absurd (by decide) q)
      refine z_lv [2, 3, 1] rfl ?_
      exact z_eq (cut92 () trivial) (congrArg (fun n => MW κ Ad eo ip v n aw od sv ot) (show nw = lvs1 nw t b by simp only [lvs1]; rw [if_neg (by omega)])) rfl rfl rfl
    · refine z_aload_n C dX6_leaves_37 1 rfl ?_
      refine zm_get_now C hin k13 dX6_leaves_38 ?_
      refine z_iload_n C dX6_leaves_41 2 rfl ?_
      refine zs_call C (mX6_t l D κ t) gX6_leaves_X6_t rfl rfl rfl hdX6_t ⟨Nat.le_of_ble_eq_true rfl, Nat.le_of_ble_eq_true rfl⟩ rfl (Nat.le_of_ble_eq_true rfl) dX6_leaves_42 ⟨Nat.zero_le _, Nat.zero_le _⟩ ?_
      refine z_iconst (v := nI 0) C dX6_leaves_45 (by decide) ?_
      refine zn_iadd C dX6_leaves_46 ?_
      refine zm_ald_now C (by omega) dX6_leaves_47 ?_
      have g12 : nw ((65 + 5 * t) + 0) ≤ M := hB.j (by omega) (by omega)
      refine z_iconst (v := nI 1) C dX6_leaves_48 (by decide) ?_
      refine zn_icmp_le C 56 dX6_leaves_49 (by decide) (by omega) (by omega) (fun h13 => ?_) (fun h14 => ?_)
      · refine z_iconst (v := nI 0) C dX6_leaves_56 (by decide) ?_
        refine z_istore_n C [(3, .int (nI 0)), (2, .int (nI b)), (0, .ref (Ad 0)), (1, .int (nI t))] dX6_leaves_57 (by decide) rfl ?_
        refine z_iload_n C dX6_leaves_58 0 rfl ?_
        refine z_if_eq C 92 dX6_leaves_59 (by decide) (fun _ => ?_) (fun q => absurd (by decide) q)
        refine z_lv [2, 3, 1] rfl ?_
        exact z_eq (cut92 () trivial) (congrArg (fun n => MW κ Ad eo ip v n aw od sv ot) (show nw = lvs1 nw t b by simp only [lvs1]; rw [if_neg (by omega)])) rfl rfl rfl
      · refine z_iconst (v := nI 1) C dX6_leaves_52 (by decide) ?_
        refine z_goto (tgt := 57) C dX6_leaves_53 (by decide) ?_
        refine z_istore_n C [(3, .int (nI 1)), (2, .int (nI b)), (0, .ref (Ad 0)), (1, .int (nI t))] dX6_leaves_57 (by decide) rfl ?_
        refine z_iload_n C dX6_leaves_58 0 rfl ?_
        refine z_if_eq C 92 dX6_leaves_59 (by decide) (fun q => absurd q (by decide)) (fun _ => ?_)
        refine z_aload_n C dX6_leaves_62 2 rfl ?_
        refine zm_get_now C hin k13 dX6_leaves_63 ?_
        refine z_iload_n C dX6_leaves_66 3 rfl ?_
        refine zs_call C (mX6_t l D κ t) gX6_leaves_X6_t rfl rfl rfl hdX6_t ⟨Nat.le_of_ble_eq_true rfl, Nat.le_of_ble_eq_true rfl⟩ rfl (Nat.le_of_ble_eq_true rfl) dX6_leaves_67 ⟨Nat.zero_le _, Nat.zero_le _⟩ ?_
        refine z_iconst (v := nI 0) C dX6_leaves_70 (by decide) ?_
        refine zn_iadd C dX6_leaves_71 ?_
        refine z_dup2 C dX6_leaves_72 rfl rfl ?_
        refine zm_ald_now C (by omega) dX6_leaves_73 ?_
        have g15 : nw ((65 + 5 * t) + 0) ≤ M := hB.j (by omega) (by omega)
        refine z_iconst (v := nI 1) C dX6_leaves_74 (by decide) ?_
        refine zn_isub C dX6_leaves_75 (by omega) ?_
        refine zm_ast_now C (by omega) dX6_leaves_76 ?_
        refine z_aload_n C dX6_leaves_77 2 rfl ?_
        refine zm_get_now C hin k13 dX6_leaves_78 ?_
        refine z_iload_n C dX6_leaves_81 1 rfl ?_
        refine zs_call C (mX6_b l D κ b) gX6_leaves_X6_b rfl rfl rfl hdX6_b ⟨Nat.le_of_ble_eq_true rfl, Nat.le_of_ble_eq_true rfl⟩ rfl (Nat.le_of_ble_eq_true rfl) dX6_leaves_82 ⟨Nat.zero_le _, Nat.zero_le _⟩ ?_
        refine z_iconst (v := nI 5) C dX6_leaves_85 (by decide) ?_
        refine zn_iadd C dX6_leaves_86 ?_
        refine z_dup2 C dX6_leaves_87 rfl rfl ?_
        refine zm_ald_now C (by omega) dX6_leaves_88 ?_
        refine z_iconst (v := nI 1) C dX6_leaves_89 (by decide) ?_
        refine zn_iadd C dX6_leaves_90 ?_
        refine zm_ast_now C (by omega) dX6_leaves_91 ?_
        refine z_lv [2, 3, 1] rfl ?_
        exact z_eq (cut92 () trivial) (congrArg (fun n => MW κ Ad eo ip v n aw od sv ot) (show upN (upN nw ((65 + 5 * t) + 0) ((nw ((65 + 5 * t) + 0)) - 1)) ((5 + 6 * b) + 5) (((upN nw ((65 + 5 * t) + 0) ((nw ((65 + 5 * t) + 0)) - 1)) ((5 + 6 * b) + 5)) + 1) = lvs1 nw t b by simp only [lvs1]; rw [if_pos (by omega), upN_n (by omega)])) rfl rfl rfl
theorem hdX6_leaves : yX6_leaves.cls = RX6 ∧ yX6_leaves.cls ≠ "java/lang/invoke/MethodHandle" ∧ yX6_leaves.cls ≠ "java/lang/invoke/VarHandle" ∧ (parseMethodDescriptor yX6_leaves.desc).map (fun d => d.parameters.length) = some 1 := by decide +kernel
set_option maxRecDepth 100000 in
set_option maxHeartbeats 4000000 in
theorem mX6_moves (l : Launch) (D : va_G) (κ : Nat → ClassId) (Ad : Nat → Nat) (eo : Int32) (ip : Nat → Int32) (v nw aw od sv ot : Nat → Nat) (M : Nat) (t : Nat) (hB : Bd M nw) (ht : t < nw 2) (hM3 : M + 2 < 1073741824) : mM l yX6_moves wsX6_moves { frames := 4, cells := 0, slots := 0, locals := 85 } D κ Ad [.int (nI t)] eo ip v nw aw od sv ot (some (.int (nI (mvE nw t).toNat))) eo ip v (mvS nw t) aw od sv ot := by
  refine zM_of (cc := cX6_moves) (maxL := 5) (rt := (some .boolean)) [(0, .ref (Ad 0)), (1, .int (nI t))] (by decide +kernel) rfl (Nat.le_of_ble_eq_true rfl) rfl ?_
  intro p e s m args below meth c A C hr hk hnm
  have C : zC p s m args c cX6_moves 5 wsX6_moves RX6 D (zTy κ) A := C
  have hin : ∀ w ∈ wsX60, w ∈ wsX6_moves := fun w h => List.mem_cons_of_mem _ (List.mem_append_right _ h)
  have k13 : Cond.fieldLink RX6 13 "PeatRailwayModel" "now" "[I" ∈ wsX6_moves := by decide +kernel
  obtain ⟨hM1, hM2, ht0, hnb, hnt, hj, hp⟩ := id hB
  obtain ⟨b, hbe⟩ : ∃ b, b = nw (65 + 5 * t + 2) := ⟨_, rfl⟩
  have hb1 : b < nw 1 := by rw [hbe]; exact hB.p ht
  have hsp := spd_le hB ht
  refine z_iload_n C dX6_moves_0 1 rfl ?_
  refine zs_call C (mX6_t l D κ t) gX6_moves_X6_t rfl rfl rfl hdX6_t ⟨Nat.le_of_ble_eq_true rfl, Nat.le_of_ble_eq_true rfl⟩ rfl (Nat.le_of_ble_eq_true rfl) dX6_moves_1 ⟨Nat.zero_le _, Nat.zero_le _⟩ ?_
  refine z_istore_n C [(2, .int (nI (65 + 5 * t))), (0, .ref (Ad 0)), (1, .int (nI t))] dX6_moves_4 (by decide) rfl ?_
  refine z_aload_n C dX6_moves_5 1 rfl ?_
  refine zm_get_now C hin k13 dX6_moves_6 ?_
  refine z_aload_n C dX6_moves_9 1 rfl ?_
  refine zm_get_now C hin k13 dX6_moves_10 ?_
  refine z_iload_n C dX6_moves_13 0 rfl ?_
  refine z_iconst (v := nI 2) C dX6_moves_14 (by decide) ?_
  refine zn_iadd C dX6_moves_15 ?_
  refine zm_ald_now C (by omega) dX6_moves_16 ?_
  have g1 : nw ((65 + 5 * t) + 2) ≤ M := hB.j (by omega) (by omega)
  have q2 : nw ((65 + 5 * t) + 2) < nw 1 := hB.p (t := t) (by omega)
  rw [← hbe]
  refine zs_call C (mX6_b l D κ b) gX6_moves_X6_b rfl rfl rfl hdX6_b ⟨Nat.le_of_ble_eq_true rfl, Nat.le_of_ble_eq_true rfl⟩ rfl (Nat.le_of_ble_eq_true rfl) dX6_moves_17 ⟨Nat.zero_le _, Nat.zero_le _⟩ ?_
  refine z_iconst (v := nI 0) C dX6_moves_20 (by decide) ?_
  refine zn_iadd C dX6_moves_21 ?_
  refine zm_ald_now C (by omega) dX6_moves_22 ?_
  have g3 : nw ((5 + 6 * b) + 0) ≤ M := hB.j (by omega) (by omega)
  refine z_istore_n C [(3, .int (nI (nw ((5 + 6 * b) + 0)))), (2, .int (nI (65 + 5 * t))), (0, .ref (Ad 0)), (1, .int (nI t))] dX6_moves_23 (by decide) rfl ?_
  refine z_aload_n C dX6_moves_24 2 rfl ?_
  refine zm_get_now C hin k13 dX6_moves_25 ?_
  refine z_iload_n C dX6_moves_28 1 rfl ?_
  refine z_iconst (v := nI 3) C dX6_moves_29 (by decide) ?_
  refine zn_iadd C dX6_moves_30 ?_
  refine zm_ald_now C (by omega) dX6_moves_31 ?_
  have g4 : nw ((65 + 5 * t) + 3) ≤ M := hB.j (by omega) (by omega)
  refine z_aload_n C dX6_moves_32 2 rfl ?_
  refine z_iload_n C dX6_moves_33 3 rfl ?_
  refine zm_call C (mX6_speed l D κ Ad _ _ _ _ _ _ _ _ M t hB (by omega)) gX6_moves_X6_speed rfl rfl rfl hdX6_speed ⟨Nat.le_of_ble_eq_true rfl, Nat.le_of_ble_eq_true rfl⟩ rfl (Nat.le_of_ble_eq_true rfl) dX6_moves_34 ⟨Nat.zero_le _, Nat.zero_le _⟩ ?_
  refine zn_iadd C dX6_moves_37 ?_
  refine z_istore C [(4, .int (nI ((nw ((65 + 5 * t) + 3)) + (spd nw t)))), (3, .int (nI (nw ((5 + 6 * b) + 0)))), (2, .int (nI (65 + 5 * t))), (0, .ref (Ad 0)), (1, .int (nI t))] dX6_moves_38 (by decide) rfl ?_
  refine z_cut (α := Nat) (fun x => x = if nw ((5 + 6 * b) + 0) < (nw ((65 + 5 * t) + 3)) + (spd nw t) then nw ((5 + 6 * b) + 0) else (nw ((65 + 5 * t) + 3)) + (spd nw t)) (fun x => MW κ Ad eo ip v nw aw od sv ot) (fun x => [(0, .ref (Ad 0)), (1, .int (nI t)), (2, .int (nI (65 + 5 * t))), (4, .int (nI x))]) (fun x => []) 49 (fun x hx49 => ?_) (fun cut49 => ?_)
  · refine z_aload_n C dX6_moves_49 0 rfl ?_
    refine zm_get_now C hin k13 dX6_moves_50 ?_
    refine z_iload_n C dX6_moves_53 2 rfl ?_
    refine z_iconst (v := nI 3) C dX6_moves_54 (by decide) ?_
    refine zn_iadd C dX6_moves_55 ?_
    refine z_iload C dX6_moves_56 3 rfl ?_
    refine zm_ast_now C (by omega) dX6_moves_58 ?_
    rw [show upN nw ((65 + 5 * t) + 3) x = mv1 nw t from by simp only [mv1]; rw [hx49, ← hbe]]
    have hB1 : Bd M (mv1 nw t) := mv1_bd hB ht
    have e2 : mv1 nw t 2 = nw 2 := mv1_lo (by omega)
    have e1 : mv1 nw t 1 = nw 1 := mv1_lo (by omega)
    refine z_aload_n C dX6_moves_59 0 rfl ?_
    refine z_iload_n C dX6_moves_60 1 rfl ?_
    refine zm_call C (mX6_isAtEnd l D κ Ad _ _ _ _ _ _ _ _ M t hB1 (by omega)) gX6_moves_X6_isAtEnd rfl rfl rfl hdX6_isAtEnd ⟨Nat.le_of_ble_eq_true rfl, Nat.le_of_ble_eq_true rfl⟩ rfl (Nat.le_of_ble_eq_true rfl) dX6_moves_61 ⟨Nat.zero_le _, Nat.zero_le _⟩ ?_
    refine zb_if_ne C 69 dX6_moves_64 (by decide) (fun h5 => ?_) (fun h6 => ?_)
    · refine z_aload_n C dX6_moves_69 0 rfl ?_
      refine z_iload_n C dX6_moves_70 1 rfl ?_
      refine zm_call C (mX6_mayEnter l D κ Ad _ _ _ _ _ _ _ _ M t hB1 (by omega)) gX6_moves_X6_mayEnter rfl rfl rfl hdX6_mayEnter ⟨Nat.le_of_ble_eq_true rfl, Nat.le_of_ble_eq_true rfl⟩ rfl (Nat.le_of_ble_eq_true rfl) dX6_moves_71 ⟨Nat.zero_le _, Nat.zero_le _⟩ ?_
      refine zb_if_ne C 91 dX6_moves_74 (by decide) (fun h7 => ?_) (fun h8 => ?_)
      · refine z_aload_n C dX6_moves_91 0 rfl ?_
        refine z_iload_n C dX6_moves_92 1 rfl ?_
        refine zm_call C (mX6_leaves l D κ Ad _ _ _ _ _ _ _ _ M t hB1 (by omega) (by omega)) gX6_moves_X6_leaves rfl rfl rfl hdX6_leaves ⟨Nat.le_of_ble_eq_true rfl, Nat.le_of_ble_eq_true rfl⟩ rfl (Nat.le_of_ble_eq_true rfl) dX6_moves_93 ⟨Nat.zero_le _, Nat.zero_le _⟩ ?_
        have hB2 : Bd (M + 2) (lvs (mv1 nw t) t) := lvs_bd hB1 hM3 (by omega)
        have f2 : lvs (mv1 nw t) t 2 = nw 2 := (lvs_lo (by omega)).trans e2
        have f1 : lvs (mv1 nw t) t 1 = nw 1 := (lvs_lo (by omega)).trans e1
        refine z_aload_n C dX6_moves_96 0 rfl ?_
        refine zm_get_now C hin k13 dX6_moves_97 ?_
        refine z_iload_n C dX6_moves_100 2 rfl ?_
        refine z_iconst (v := nI 2) C dX6_moves_101 (by decide) ?_
        refine zn_iadd C dX6_moves_102 ?_
        refine z_aload_n C dX6_moves_103 0 rfl ?_
        refine z_aload_n C dX6_moves_104 0 rfl ?_
        refine zm_get_now C hin k13 dX6_moves_105 ?_
        refine z_iload_n C dX6_moves_108 2 rfl ?_
        refine z_iconst (v := nI 2) C dX6_moves_109 (by decide) ?_
        refine zn_iadd C dX6_moves_110 ?_
        refine zm_ald_now C (by omega) dX6_moves_111 ?_
        have g9 : (lvs (mv1 nw t) t) ((65 + 5 * t) + 2) ≤ M + 2 := hB2.j (by omega) (by omega)
        have q10 : (lvs (mv1 nw t) t) ((65 + 5 * t) + 2) < (lvs (mv1 nw t) t) 1 := hB2.p (t := t) (by omega)
        refine zm_call C (mX6_after l D κ Ad _ _ _ _ _ _ _ _ (M + 2) ((lvs (mv1 nw t) t) ((65 + 5 * t) + 2)) hB2 (by omega)) gX6_moves_X6_after rfl rfl rfl hdX6_after ⟨Nat.le_of_ble_eq_true rfl, Nat.le_of_ble_eq_true rfl⟩ rfl (Nat.le_of_ble_eq_true rfl) dX6_moves_112 ⟨Nat.zero_le _, Nat.zero_le _⟩ ?_
        obtain ⟨n, hn⟩ : ∃ n, n = aft (lvs (mv1 nw t) t) (lvs (mv1 nw t) t (65 + 5 * t + 2)) := ⟨_, rfl⟩
        have hn1 : n < nw 1 := by rw [hn, ← f1]; exact aft_lt (hB2.p (by omega))
        rw [← hn]
        refine zm_ast_now C (by omega) dX6_moves_115 ?_
        refine z_aload_n C dX6_moves_116 0 rfl ?_
        refine zm_get_now C hin k13 dX6_moves_117 ?_
        refine z_iload_n C dX6_moves_120 2 rfl ?_
        refine z_iconst (v := nI 3) C dX6_moves_121 (by decide) ?_
        refine zn_iadd C dX6_moves_122 ?_
        refine z_iconst (v := nI 0) C dX6_moves_123 (by decide) ?_
        refine zm_ast_now C (by omega) dX6_moves_124 ?_
        refine z_aload_n C dX6_moves_125 0 rfl ?_
        refine zm_get_now C hin k13 dX6_moves_126 ?_
        refine z_aload_n C dX6_moves_129 0 rfl ?_
        refine zm_get_now C hin k13 dX6_moves_130 ?_
        refine z_iload_n C dX6_moves_133 2 rfl ?_
        refine z_iconst (v := nI 2) C dX6_moves_134 (by decide) ?_
        refine zn_iadd C dX6_moves_135 ?_
        refine zm_ald_now C (by omega) dX6_moves_136 ?_
        rw [show (upN (upN (lvs (mv1 nw t) t) ((65 + 5 * t) + 2) n) ((65 + 5 * t) + 3) 0) ((65 + 5 * t) + 2) = n from by rw [upN_n (by omega), upN_s]]
        refine zs_call C (mX6_b l D κ n) gX6_moves_X6_b rfl rfl rfl hdX6_b ⟨Nat.le_of_ble_eq_true rfl, Nat.le_of_ble_eq_true rfl⟩ rfl (Nat.le_of_ble_eq_true rfl) dX6_moves_137 ⟨Nat.zero_le _, Nat.zero_le _⟩ ?_
        refine z_iconst (v := nI 4) C dX6_moves_140 (by decide) ?_
        refine zn_iadd C dX6_moves_141 ?_
        refine z_iconst (v := nI 0) C dX6_moves_142 (by decide) ?_
        refine zm_ast_now C (by omega) dX6_moves_143 ?_
        refine z_iconst (v := nI 1) C dX6_moves_144 (by decide) ?_
        exact z_zret C hr hk (by decide) () (congrArg (fun x : Bool => some (Value.int (nI x.toNat))) (show mvE nw t = true by simp only [mvE]; rw [h5, h7]; rfl)) trivial (List.Perm.of_eq (congrArg (fun n => MW κ Ad eo ip v n aw od sv ot) (show upN (upN (upN (lvs (mv1 nw t) t) ((65 + 5 * t) + 2) n) ((65 + 5 * t) + 3) 0) ((5 + 6 * n) + 4) 0 = mvS nw t by simp only [mvS]; rw [if_pos h5, if_pos h7, ← hn]; rfl))) dX6_moves_145 (Nat.le_refl _) (Nat.le_refl _)
      · refine z_aload_n C dX6_moves_77 0 rfl ?_
        refine zm_get_now C hin k13 dX6_moves_78 ?_
        refine z_iload_n C dX6_moves_81 2 rfl ?_
        refine z_iconst (v := nI 4) C dX6_moves_82 (by decide) ?_
        refine zn_iadd C dX6_moves_83 ?_
        refine z_dup2 C dX6_moves_84 rfl rfl ?_
        refine zm_ald_now C (by omega) dX6_moves_85 ?_
        have g11 : (mv1 nw t) ((65 + 5 * t) + 4) ≤ M := hB1.j (by omega) (by omega)
        refine z_iconst (v := nI 1) C dX6_moves_86 (by decide) ?_
        refine zn_iadd C dX6_moves_87 ?_
        refine zm_ast_now C (by omega) dX6_moves_88 ?_
        refine z_iconst (v := nI 0) C dX6_moves_89 (by decide) ?_
        exact z_zret C hr hk (by decide) () (congrArg (fun x : Bool => some (Value.int (nI x.toNat))) (show mvE nw t = false by simp only [mvE]; rw [h5, h8]; rfl)) trivial (List.Perm.of_eq (congrArg (fun n => MW κ Ad eo ip v n aw od sv ot) (show upN (mv1 nw t) ((65 + 5 * t) + 4) (((mv1 nw t) ((65 + 5 * t) + 4)) + 1) = mvS nw t by simp only [mvS]; rw [if_pos h5, if_neg (by rw [h8]; decide)]))) dX6_moves_90 (Nat.le_refl _) (Nat.le_refl _)
    · refine z_iconst (v := nI 0) C dX6_moves_67 (by decide) ?_
      exact z_zret C hr hk (by decide) () (congrArg (fun x : Bool => some (Value.int (nI x.toNat))) (show mvE nw t = false by simp only [mvE]; rw [h6]; rfl)) trivial (List.Perm.of_eq (congrArg (fun n => MW κ Ad eo ip v n aw od sv ot) (show mv1 nw t = mvS nw t by simp only [mvS]; rw [if_neg (by rw [h6]; decide)]))) dX6_moves_68 (Nat.le_refl _) (Nat.le_refl _)
  refine z_iload C dX6_moves_40 0 rfl ?_
  refine z_iload_n C dX6_moves_42 1 rfl ?_
  refine zn_icmp_le C 49 dX6_moves_43 (by decide) (by omega) (by omega) (fun h12 => ?_) (fun h13 => ?_)
  · refine z_lv [3, 4, 2, 0] rfl ?_
    exact cut49 ((nw ((65 + 5 * t) + 3)) + (spd nw t)) (by first | rw [if_neg (by omega)] | rw [if_pos (by omega)])
  · refine z_iload_n C dX6_moves_46 1 rfl ?_
    refine z_istore C [(4, .int (nI (nw ((5 + 6 * b) + 0)))), (3, .int (nI (nw ((5 + 6 * b) + 0)))), (2, .int (nI (65 + 5 * t))), (0, .ref (Ad 0)), (1, .int (nI t))] dX6_moves_47 (by decide) rfl ?_
    refine z_lv [3, 4, 2, 0] rfl ?_
    exact cut49 (nw ((5 + 6 * b) + 0)) (by first | rw [if_neg (by omega)] | rw [if_pos (by omega)])
theorem hdX6_moves : yX6_moves.cls = RX6 ∧ yX6_moves.cls ≠ "java/lang/invoke/MethodHandle" ∧ yX6_moves.cls ≠ "java/lang/invoke/VarHandle" ∧ (parseMethodDescriptor yX6_moves.desc).map (fun d => d.parameters.length) = some 1 := by decide +kernel
set_option maxRecDepth 100000 in
set_option maxHeartbeats 4000000 in
theorem mX6_passesTick (l : Launch) (D : va_G) (κ : Nat → ClassId) (Ad : Nat → Nat) (eo : Int32) (ip : Nat → Int32) (v nw aw od sv ot : Nat → Nat) (M : Nat)  (hB : Bd M nw) (hM3 : M + 11 < 1073741824) : mM l yX6_passesTick wsX6_passesTick { frames := 5, cells := 0, slots := 0, locals := 109 } D κ Ad [] eo ip v nw aw od sv ot (some (.int (nI (tkE nw)))) eo ip v (tkS nw) aw od sv ot := by
  refine zM_of (cc := cX6_passesTick) (maxL := 3) (rt := (some .int)) [(0, .ref (Ad 0))] (by decide +kernel) rfl (Nat.le_of_ble_eq_true rfl) rfl ?_
  intro p e s m args below meth c A C hr hk hnm
  have C : zC p s m args c cX6_passesTick 3 wsX6_passesTick RX6 D (zTy κ) A := C
  have hin : ∀ w ∈ wsX60, w ∈ wsX6_passesTick := fun w h => List.mem_cons_of_mem _ (List.mem_append_right _ h)
  have k13 : Cond.fieldLink RX6 13 "PeatRailwayModel" "now" "[I" ∈ wsX6_passesTick := by decide +kernel
  obtain ⟨hM1, hM2, ht0, hnb, hnt, hj, hp⟩ := id hB
  refine z_iconst (v := nI 0) C dX6_passesTick_0 (by decide) ?_
  refine z_istore_n C [(1, .int (nI 0)), (0, .ref (Ad 0))] dX6_passesTick_1 (by decide) rfl ?_
  refine z_aload_n C dX6_passesTick_2 1 rfl ?_
  refine zm_get_now C hin k13 dX6_passesTick_3 ?_
  refine z_iconst (v := nI 0) C dX6_passesTick_6 (by decide) ?_
  refine z_dup2 C dX6_passesTick_7 rfl rfl ?_
  refine zm_ald_now C (by omega) dX6_passesTick_8 ?_
  refine z_iconst (v := nI 1) C dX6_passesTick_9 (by decide) ?_
  refine zn_iadd C dX6_passesTick_10 ?_
  refine zm_ast_now C (by omega) dX6_passesTick_11 ?_
  refine z_iconst (v := nI 0) C dX6_passesTick_12 (by decide) ?_
  refine z_istore_n C [(2, .int (nI 0)), (1, .int (nI 0)), (0, .ref (Ad 0))] dX6_passesTick_13 (by decide) rfl ?_
  refine z_lv [2, 1, 0] rfl ?_
  refine z_loop (σ := Nat × Nat × (Nat → Nat)) (fun x => MW κ Ad eo ip v x.2.2 aw od sv ot) (fun x => [(0, .ref (Ad 0)), (1, .int (nI x.2.1)), (2, .int (nI x.1))]) (fun x => x.1 ≤ nw 2 ∧ x.2.2 2 = nw 2 ∧ mvLS (nw 2 - x.1) x.1 x.2.2 = tkS nw ∧ x.2.1 + mvLE (nw 2 - x.1) x.1 x.2.2 = tkE nw ∧ x.2.1 ≤ x.1 ∧ Bd (M + 1 + 2 * x.1) x.2.2) (fun x => nw 2 - x.1) ((0, 0, upN nw 0 (nw 0 + 1))) (⟨Nat.zero_le _, (show upN nw 0 (nw 0 + 1) 2 = nw 2 from upN_n (by decide)), rfl, by rw [Nat.zero_add]; rfl, Nat.le_refl _, (hB.mono (Nat.le_succ M) (by omega)).up0 (by omega)⟩) rfl rfl ?_
  rintro ⟨k, E, τ⟩ hI14 ih14
  dsimp only at hI14 ih14 ⊢
  obtain ⟨hk1, hk2, hk3, hk4, hk5, hk6⟩ := hI14
  refine z_iload_n C dX6_passesTick_14 2 rfl ?_
  refine z_aload_n C dX6_passesTick_15 0 rfl ?_
  refine zm_get_now C hin k13 dX6_passesTick_16 ?_
  refine z_iconst (v := nI 2) C dX6_passesTick_19 (by decide) ?_
  refine zm_ald_now C (by omega) dX6_passesTick_20 ?_
  refine zn_icmp_ge C 41 dX6_passesTick_21 (by decide) (by omega) (by omega) (fun h1 => ?_) (fun h2 => ?_)
  · refine z_iload_n C dX6_passesTick_41 1 rfl ?_
    exact z_iret C hr hk () (congrArg (fun x : Nat => some (Value.int (nI x))) (show tkE nw = E by rw [← hk4, show nw 2 - k = 0 by omega]; rfl)) trivial (List.Perm.of_eq (congrArg (fun n => MW κ Ad eo ip v n aw od sv ot) (show τ = tkS nw by rw [← hk3, show nw 2 - k = 0 by omega]; rfl))) dX6_passesTick_42 (Nat.le_refl _) (Nat.le_refl _)
  · refine z_aload_n C dX6_passesTick_24 0 rfl ?_
    refine z_iload_n C dX6_passesTick_25 2 rfl ?_
    refine zm_call C (mX6_moves l D κ Ad _ _ _ _ _ _ _ _ (M + 1 + 2 * k) k hk6 (by omega) (by omega)) gX6_passesTick_X6_moves rfl rfl rfl hdX6_moves ⟨Nat.le_of_ble_eq_true rfl, Nat.le_of_ble_eq_true rfl⟩ rfl (Nat.le_of_ble_eq_true rfl) dX6_passesTick_26 ⟨Nat.zero_le _, Nat.zero_le _⟩ ?_
    refine zb_if_eq C 35 dX6_passesTick_29 (by decide) (fun h3 => ?_) (fun h4 => ?_)
    · refine zn_iinc (n := 1) C [(2, .int (nI (k + 1))), (0, .ref (Ad 0)), (1, .int (nI E))] dX6_passesTick_35 2 rfl (by decide) rfl ?_
      refine z_goto (tgt := 14) C dX6_passesTick_38 (by decide) ?_
      refine z_lv [1, 2, 0] rfl ?_
      exact ih14 (k + 1, E, mvS τ k) ⟨by omega, by rw [← hk2]; exact mvS_lo (by omega), by rw [← hk3, show nw 2 - k = nw 2 - (k + 1) + 1 by omega]; rfl, by rw [← hk4, show nw 2 - k = nw 2 - (k + 1) + 1 by omega]; simp only [mvLE, h3, Bool.toNat_true, Bool.toNat_false]; omega, by dsimp only; omega, mvS_bd (M := M + 1 + 2 * k) hk6 (by omega) (by omega)⟩ (by dsimp only; omega)
    · refine zn_iinc (n := 1) C [(1, .int (nI (E + 1))), (0, .ref (Ad 0)), (2, .int (nI k))] dX6_passesTick_32 1 rfl (by decide) rfl ?_
      refine zn_iinc (n := 1) C [(2, .int (nI (k + 1))), (1, .int (nI (E + 1))), (0, .ref (Ad 0))] dX6_passesTick_35 2 rfl (by decide) rfl ?_
      refine z_goto (tgt := 14) C dX6_passesTick_38 (by decide) ?_
      refine z_lv [2, 1, 0] rfl ?_
      exact ih14 (k + 1, (E + 1), mvS τ k) ⟨by omega, by rw [← hk2]; exact mvS_lo (by omega), by rw [← hk3, show nw 2 - k = nw 2 - (k + 1) + 1 by omega]; rfl, by rw [← hk4, show nw 2 - k = nw 2 - (k + 1) + 1 by omega]; simp only [mvLE, h4, Bool.toNat_true, Bool.toNat_false]; omega, by dsimp only; omega, mvS_bd (M := M + 1 + 2 * k) hk6 (by omega) (by omega)⟩ (by dsimp only; omega)
theorem hdX6_passesTick : yX6_passesTick.cls = RX6 ∧ yX6_passesTick.cls ≠ "java/lang/invoke/MethodHandle" ∧ yX6_passesTick.cls ≠ "java/lang/invoke/VarHandle" ∧ (parseMethodDescriptor yX6_passesTick.desc).map (fun d => d.parameters.length) = some 0 := by decide +kernel
set_option maxRecDepth 100000 in
set_option maxHeartbeats 4000000 in
theorem mX6_passes (l : Launch) (D : va_G) (κ : Nat → ClassId) (Ad : Nat → Nat) (eo : Int32) (ip : Nat → Int32) (v nw aw od sv ot : Nat → Nat) (M : Nat) (n : Nat) (hB : Bd M nw) (hM3 : M + 11 * n < 1073741824) : mM l yX6_passes wsX6_passes { frames := 6, cells := 0, slots := 0, locals := 131 } D κ Ad [.int (nI n)] eo ip v nw aw od sv ot (some (.int (nI (psE n nw)))) eo ip v (psS n nw) aw od sv ot := by
  refine zM_of (cc := cX6_passes) (maxL := 4) (rt := (some .int)) [(0, .ref (Ad 0)), (1, .int (nI n))] (by decide +kernel) rfl (Nat.le_of_ble_eq_true rfl) rfl ?_
  intro p e s m args below meth c A C hr hk hnm
  have C : zC p s m args c cX6_passes 4 wsX6_passes RX6 D (zTy κ) A := C
  obtain ⟨hM1, hM2, ht0, hnb, hnt, hj, hp⟩ := id hB
  refine z_iconst (v := nI 0) C dX6_passes_0 (by decide) ?_
  refine z_istore_n C [(2, .int (nI 0)), (0, .ref (Ad 0)), (1, .int (nI n))] dX6_passes_1 (by decide) rfl ?_
  refine z_iconst (v := nI 0) C dX6_passes_2 (by decide) ?_
  refine z_istore_n C [(3, .int (nI 0)), (2, .int (nI 0)), (0, .ref (Ad 0)), (1, .int (nI n))] dX6_passes_3 (by decide) rfl ?_
  refine z_lv [2, 3, 1, 0] rfl ?_
  refine z_loop (σ := Nat × Nat × (Nat → Nat)) (fun x => MW κ Ad eo ip v x.2.2 aw od sv ot) (fun x => [(0, .ref (Ad 0)), (1, .int (nI n)), (2, .int (nI x.2.1)), (3, .int (nI x.1))]) (fun x => x.1 ≤ n ∧ psS (n - x.1) x.2.2 = psS n nw ∧ x.2.1 + psE (n - x.1) x.2.2 = psE n nw ∧ Bd (M + 11 * x.1) x.2.2) (fun x => n - x.1) ((0, 0, nw)) (⟨Nat.zero_le _, rfl, Nat.zero_add _, hB⟩) rfl rfl ?_
  rintro ⟨k, E, τ⟩ hI4 ih4
  dsimp only at hI4 ih4 ⊢
  obtain ⟨hk1, hk3, hk4, hk6⟩ := hI4
  refine z_iload_n C dX6_passes_4 3 rfl ?_
  refine z_iload_n C dX6_passes_5 1 rfl ?_
  refine zn_icmp_ge C 22 dX6_passes_6 (by decide) (by omega) (by omega) (fun h1 => ?_) (fun h2 => ?_)
  · refine z_iload_n C dX6_passes_22 2 rfl ?_
    exact z_iret C hr hk () (congrArg (fun x : Nat => some (Value.int (nI x))) (show psE n nw = E by rw [← hk4, show n - k = 0 by omega]; rfl)) trivial (List.Perm.of_eq (congrArg (fun n => MW κ Ad eo ip v n aw od sv ot) (show τ = psS n nw by rw [← hk3, show n - k = 0 by omega]; rfl))) dX6_passes_23 (Nat.le_refl _) (Nat.le_refl _)
  · refine z_iload_n C dX6_passes_9 2 rfl ?_
    refine z_aload_n C dX6_passes_10 0 rfl ?_
    refine zm_call C (mX6_passesTick l D κ Ad _ _ _ _ _ _ _ _ (M + 11 * k) hk6 (by omega)) gX6_passes_X6_passesTick rfl rfl rfl hdX6_passesTick ⟨Nat.le_of_ble_eq_true rfl, Nat.le_of_ble_eq_true rfl⟩ rfl (Nat.le_of_ble_eq_true rfl) dX6_passes_11 ⟨Nat.zero_le _, Nat.zero_le _⟩ ?_
    refine zn_iadd C dX6_passes_14 ?_
    refine z_istore_n C [(2, .int (nI (E + (tkE τ)))), (0, .ref (Ad 0)), (1, .int (nI n)), (3, .int (nI k))] dX6_passes_15 (by decide) rfl ?_
    refine zn_iinc (n := 1) C [(3, .int (nI (k + 1))), (2, .int (nI (E + (tkE τ)))), (0, .ref (Ad 0)), (1, .int (nI n))] dX6_passes_16 3 rfl (by decide) rfl ?_
    refine z_goto (tgt := 4) C dX6_passes_19 (by decide) ?_
    refine z_lv [2, 3, 1, 0] rfl ?_
    exact ih4 (k + 1, (E + (tkE τ)), tkS τ) ⟨by omega, by rw [← hk3, show n - k = n - (k + 1) + 1 by omega]; rfl, by rw [← hk4, show n - k = n - (k + 1) + 1 by omega]; simp only [psE]; omega, tkS_bd (M := M + 11 * k) hk6 (by omega)⟩ (by dsimp only; omega)
theorem hdX6_passes : yX6_passes.cls = RX6 ∧ yX6_passes.cls ≠ "java/lang/invoke/MethodHandle" ∧ yX6_passes.cls ≠ "java/lang/invoke/VarHandle" ∧ (parseMethodDescriptor yX6_passes.desc).map (fun d => d.parameters.length) = some 1 := by decide +kernel
end M3
