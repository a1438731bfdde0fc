section S2
def lv1G (g : Nat → Nat → Nat) (t b s : Nat) : Nat → Nat → Nat := if 7 ≤ g 6 b ∧ 3 ≤ s ∧ 1 < g 13 t then up2 (up2 g 13 t (g 13 t - 1)) 9 b (g 9 b + 1) else g
def lvG (g : Nat → Nat → Nat) (t b s : Nat) : Nat → Nat → Nat :=
  up2 (up2 (up2 (lv1G g t b s) 6 b (if 9 < lv1G g t b s 6 b + 1 + lv1G g t b s 13 t / 4 then 9 else lv1G g t b s 6 b + 1 + lv1G g t b s 13 t / 4)) 16 (t * 10 + b) (lv1G g t b s 16 (t * 10 + b) + 1)) 10 b 0
section ACC
variable {g : Nat → Nat → Nat} {σ : Nat → Nat} {M : Nat}
theorem lv1G_6 {t b s : Nat} : lv1G g t b s 6 = g 6 := by simp only [lv1G]; split <;> rfl
theorem lv1G_10 {t b s : Nat} : lv1G g t b s 10 = g 10 := by simp only [lv1G]; split <;> rfl
theorem lv1G_13 {t b s : Nat} : lv1G g t b s 13 t ≤ g 13 t := by
  simp only [lv1G]
  split
  · show upN (g 13) t (g 13 t - 1) t ≤ _
    rw [upN_s]; omega
  · exact Nat.le_refl _
theorem Rp_lvG (h : Rp g σ) (hv : Inv M σ) {t : Nat} (ht : t < σ 2) : Rp (lvG g t (σ (65 + 5 * t + 2)) (spd σ t)) (lvs σ t) := by
  have h10 := hv.n1
  have h5 := hv.n2
  have ht9 := hv.trn ht
  obtain ⟨b, hb⟩ : ∃ b, b = σ (65 + 5 * t + 2) := ⟨_, rfl⟩
  have hp1 : Rp (lv1G g t b (spd σ t)) (lvs1 σ t b) := by
    have e6 := h.b6 (b := b) (by omega)
    have e13 := h.t13 ht
    have e9 := h.b9 (b := b) (by omega)
    simp only [lv1G, lvs1, e6, e13, e9]
    split
    · exact (h.wag h10 h5 (by omega)).lost (by rw [upN_n (by omega)]; exact h10) (by rw [upN_n (by omega)]; exact h5) (by omega)
    · exact h
  rw [← hb]
  have e6 := hp1.b6 (b := b) (by rw [lvs1_lo (by omega)]; omega)
  have e13 := hp1.t13 (t := t) (by rw [lvs1_lo (by omega)]; exact ht)
  have e16 := hp1.p16 (t := t) (b := b) (by rw [lvs1_lo (by omega)]; exact ht) (by omega)
  simp only [lvG, lvs, lvs2]
  rw [e6, e13, e16, ← hb]
  have q1 : lvs1 σ t b 1 ≤ 10 := by rw [lvs1_lo (by omega)]; exact h10
  have q2 : lvs1 σ t b 2 ≤ 5 := by rw [lvs1_lo (by omega)]; exact h5
  exact ((hp1.dep q1 q2 (by omega)).psg (by rw [upN_n (by omega)]; exact q1) (by rw [upN_n (by omega)]; exact q2) (by omega) (by omega)).occ
/-- the picture behind a move into the next block -/
theorem Rep_mv2 (h : Rep g σ) (hv : Inv M σ) (hM : M + 2 < 1073741824) {t n : Nat} (ht : t < σ 2) (hn : n < σ 1) (ho : occ σ n = false) : Rep (up2 (up2 (up2 (up2 (lvG g t (σ (65 + 5 * t + 2)) (spd σ t)) 11 t n) 12 t 0) 10 n (t + 1)) 8 n 0) (mv2 (lvs σ t) t n) := by
  have h10 := hv.n1
  have h5 := hv.n2
  have ht9 := hv.trn ht
  have hn0 := (occ_f ho).1
  have hp := Rp_lvG h.1 hv ht
  have q1 : lvs σ t 1 = σ 1 := lvs_lo (by omega)
  have q2 : lvs σ t 2 = σ 2 := lvs_lo (by omega)
  have r1 := hp.plc (by rw [q1]; exact h10) (by rw [q2]; exact h5) (a := t) (x := n) (by omega)
  have r2 := r1.pos (by rw [upN_n (by omega), q1]; exact h10) (by rw [upN_n (by omega), q2]; exact h5) (a := t) (x := 0) (by omega)
  have r3 := (r2.occ (b := n) (x := t + 1)).clr (by rw [upN_n (by omega), upN_n (by omega), q1]; exact h10) (by rw [upN_n (by omega), upN_n (by omega), q2]; exact h5) (b := n) (x := 0) (by omega)
  refine ⟨r3, fun c hc => ?_⟩
  have s2 := lvs_sm hv.2.1 hv.2.2 ht
  have epl : ∀ u, u < σ 2 → lvs σ t (65 + 5 * u + 2) = σ (65 + 5 * u + 2) := fun u hu => lvs_pl (by omega) (by omega) (by omega)
  rw [trAt_mv hv.2.1 ht (mv2_sm s2 (by rw [q2]; exact ht) (by rw [q1]; exact hn) (by rw [trAt_ext q2 epl]; exact hn0)) (by rw [mv2_lo (by omega)]; exact q2) (fun u hu => by rw [mv2_pl (by omega) (by omega) (by omega), epl u hu]) hn0 c]
  show upN (upN (lv1G g t (σ (65 + 5 * t + 2)) (spd σ t) 10) (σ (65 + 5 * t + 2)) 0) n (t + 1) c = _
  rw [upN_if, upN_if, lv1G_10]
  split
  · rfl
  · split
    · rfl
    · exact h.2 c (by rw [mv2_lo (by omega), q1] at hc; exact hc)
theorem mv1_X {t X : Nat} (hX : X = if σ (5 + 6 * σ (65 + 5 * t + 2) + 0) < σ (65 + 5 * t + 3) + spd σ t then σ (5 + 6 * σ (65 + 5 * t + 2) + 0) else σ (65 + 5 * t + 3) + spd σ t) : mv1 σ t = upN σ (65 + 5 * t + 3) X := by rw [hX]; rfl
theorem mv_atE (hv : Inv M σ) {t X : Nat} (ht : t < σ 2) (hX : mv1 σ t = upN σ (65 + 5 * t + 3) X) : atE (mv1 σ t) t = decide (X = σ (5 + 6 * σ (65 + 5 * t + 2) + 0)) := by
  have h10 := hv.n1
  have ht9 := hv.trn ht
  simp only [atE, hX]
  rw [upN_s, upN_n (j := 65 + 5 * t + 2) (by omega), upN_n (by omega)]
theorem mv_mayE {t : Nat} : mayE (mv1 σ t) t = if mv1 σ t (5 + 6 * aft (mv1 σ t) (σ (65 + 5 * t + 2)) + 4) = 1 then !occ (mv1 σ t) (aft (mv1 σ t) (σ (65 + 5 * t + 2))) else false := by
  simp only [mayE]
  rw [mv1_pl]
theorem mv_no (hv : Inv M σ) {t X : Nat} (ht : t < σ 2) (hX : mv1 σ t = upN σ (65 + 5 * t + 3) X) (h : X < σ (5 + 6 * σ (65 + 5 * t + 2) + 0)) : mvS σ t = mv1 σ t ∧ mvE σ t = false := by
  have e := mv_atE hv ht hX
  rw [decide_eq_false (by omega)] at e
  simp only [mvS, mvE]
  rw [e]
  exact ⟨if_neg (by decide), rfl⟩
theorem mv_wt (hv : Inv M σ) {t X : Nat} (ht : t < σ 2) (hX : mv1 σ t = upN σ (65 + 5 * t + 3) X) (h : X = σ (5 + 6 * σ (65 + 5 * t + 2) + 0)) (hm : (if mv1 σ t (5 + 6 * aft (mv1 σ t) (σ (65 + 5 * t + 2)) + 4) = 1 then !occ (mv1 σ t) (aft (mv1 σ t) (σ (65 + 5 * t + 2))) else false) = false) : mvS σ t = upN (mv1 σ t) (65 + 5 * t + 4) (mv1 σ t (65 + 5 * t + 4) + 1) ∧ mvE σ t = false := by
  have e := mv_atE hv ht hX
  rw [decide_eq_true h] at e
  rw [← mv_mayE] at hm
  simp only [mvS, mvE]
  rw [e, hm]
  exact ⟨rfl, rfl⟩
theorem mv_go (hv : Inv M σ) {t X : Nat} (ht : t < σ 2) (hX : mv1 σ t = upN σ (65 + 5 * t + 3) X) (h : X = σ (5 + 6 * σ (65 + 5 * t + 2) + 0)) (hm : (if mv1 σ t (5 + 6 * aft (mv1 σ t) (σ (65 + 5 * t + 2)) + 4) = 1 then !occ (mv1 σ t) (aft (mv1 σ t) (σ (65 + 5 * t + 2))) else false) = true) : mvS σ t = mv2 (lvs (mv1 σ t) t) t (aft (mv1 σ t) (σ (65 + 5 * t + 2))) ∧ mvE σ t = true ∧ occ (mv1 σ t) (aft (mv1 σ t) (σ (65 + 5 * t + 2))) = false := by
  have e := mv_atE hv ht hX
  rw [decide_eq_true h] at e
  have hm2 := hm
  rw [← mv_mayE] at hm
  refine ⟨?_, ?_, ?_⟩
  · simp only [mvS]
    rw [e, hm, mv_next hv.2.1 ht]
    simp only [aft]
    rw [mv1_lo (j := 1) (by decide)]
    exact (if_pos trivial).trans (if_pos trivial)
  · simp only [mvE]
    rw [e, hm]
    rfl
  · split at hm2
    · cases hq : occ (mv1 σ t) (aft (mv1 σ t) (σ (65 + 5 * t + 2))) with
      | false => rfl
      | true => rw [hq] at hm2; cases hm2
    · cases hm2
theorem Inv.mv1 (hv : Inv M σ) {t : Nat} (ht : t < σ 2) : Inv M (mv1 σ t) := ⟨mv1_bd hv.1 ht, mv1_sm hv.2.1 ht, mv1_sl hv.2.1 hv.2.2 ht⟩
end ACC
set_option maxRecDepth 100000 in
set_option maxHeartbeats 4000000 in
theorem mX4_leave (l : Launch) (D : va_G) (κ : Nat → ClassId) (Sa : Nat → Nat) (g : Nat → Nat → Nat) (t b w : Nat) (ht : t < 5) (hb : b < 10) (hs : w ≤ 5) (h6 : g 6 b ≤ 9) (h13 : g 13 t ≤ 12) : cM l yX4_leave wsX4_leave { frames := 1, cells := 0, slots := 0, locals := 21 } D κ Sa [.int (nI t), .int (nI b), .int (nI w)] g none (lvG g t b w) := by
  refine zM_of (cc := cX4_leave) (maxL := 4) (rt := none) [(0, .ref (Sa 0)), (1, .int (nI t)), (2, .int (nI b)), (3, .int (nI w))] (by decide +kernel) rfl (Nat.le_of_ble_eq_true rfl) rfl ?_
  intro p e s m args below meth c A C hr9 hk hnm
  have C : zC p s m args c cX4_leave 4 wsX4_leave RX4 D (zTy κ) A := C
  have hin4 : ∀ w ∈ wsX40, w ∈ wsX4_leave := fun w h => List.mem_cons_of_mem _ (List.mem_append_right _ h)
  have k15 : Cond.fieldLink RX4 15 "PeatRailway$State" "depth" "[I" ∈ wsX4_leave := by decide +kernel
  have k37 : Cond.fieldLink RX4 37 "PeatRailway$State" "wagons" "[I" ∈ wsX4_leave := by decide +kernel
  have k25 : Cond.fieldLink RX4 25 "PeatRailway$State" "lost" "[I" ∈ wsX4_leave := by decide +kernel
  have k46 : Cond.fieldLink RX4 46 "PeatRailway$State" "passages" "[I" ∈ wsX4_leave := by decide +kernel
  have k28 : Cond.fieldLink RX4 28 "PeatRailway$State" "occupant" "[I" ∈ wsX4_leave := by decide +kernel
  refine z_eq (ws' := SW κ Sa g ++ []) ?_ rfl rfl rfl rfl
  refine z_aload_n C dX4_leave_0 0 rfl ?_
  refine zs_get_depth C hin4 k15 dX4_leave_1 ?_
  refine z_iload_n C dX4_leave_4 2 rfl ?_
  refine z_cut (α := Unit) (fun _z => True) (fun _z => SW κ Sa (lv1G g t b w) ++ []) (fun _z => [(0, .ref (Sa 0)), (1, .int (nI t)), (2, .int (nI b)), (3, .int (nI w))]) (fun _z => []) 46 (fun _z hx46 => ?_) (fun cut46 => ?_)
  · have e6 : lv1G g t b w 6 b ≤ 9 := by rw [lv1G_6]; exact h6
    have e13 : lv1G g t b w 13 t ≤ g 13 t := lv1G_13
    refine z_aload_n C dX4_leave_46 0 rfl ?_
    refine zs_get_depth C hin4 k15 dX4_leave_47 ?_
    refine z_iload_n C dX4_leave_50 2 rfl ?_
    refine z_aload_n C dX4_leave_51 0 rfl ?_
    refine zs_get_depth C hin4 k15 dX4_leave_52 ?_
    refine z_iload_n C dX4_leave_55 2 rfl ?_
    refine zs_ald_depth C (x := (lv1G g t b w) 6 b) (by omega) rfl dX4_leave_56 ?_
    refine z_iconst (v := nI 1) C dX4_leave_57 (by decide) ?_
    refine zn_iadd C dX4_leave_58 ?_
    refine z_aload_n C dX4_leave_59 0 rfl ?_
    refine zs_get_wagons C hin4 k37 dX4_leave_60 ?_
    refine z_iload_n C dX4_leave_63 1 rfl ?_
    refine zs_ald_wagons C (x := (lv1G g t b w) 13 t) (by omega) rfl dX4_leave_64 ?_
    refine z_iconst (v := nI 4) C dX4_leave_65 (by decide) ?_
    refine zn_idiv C dX4_leave_66 (by omega) (by omega) (by omega) ?_
    refine zn_iadd C dX4_leave_67 ?_
    refine z_bipush (v := nI 9) C dX4_leave_68 (by decide) ?_
    refine zn_min C (show Cond.methodLink RX4 75 Lib.Math.min.name ∈ wsX4_leave from by decide +kernel) (by decide +kernel) (by decide +kernel) (by decide +kernel) (by omega) (by omega) ⟨Nat.le_of_ble_eq_true rfl, Nat.le_of_ble_eq_true rfl⟩ (Nat.le_of_ble_eq_true rfl) dX4_leave_70 ⟨Nat.zero_le _, Nat.zero_le _⟩ ?_
    refine zs_ast_depth C (by omega) dX4_leave_73 ?_
    refine z_aload_n C dX4_leave_74 0 rfl ?_
    refine zs_get_passages C hin4 k46 dX4_leave_75 ?_
    refine z_iload_n C dX4_leave_78 1 rfl ?_
    refine z_bipush (v := nI 10) C dX4_leave_79 (by decide) ?_
    refine zn_imul C dX4_leave_81 ?_
    refine z_iload_n C dX4_leave_82 2 rfl ?_
    refine zn_iadd C dX4_leave_83 ?_
    refine z_dup2 C dX4_leave_84 rfl rfl ?_
    refine zs_ald_passages C (x := (lv1G g t b w) 16 ((t * 10) + b)) (by omega) rfl dX4_leave_85 ?_
    refine z_iconst (v := nI 1) C dX4_leave_86 (by decide) ?_
    refine zn_iadd C dX4_leave_87 ?_
    refine zs_ast_passages C (by omega) dX4_leave_88 ?_
    refine z_aload_n C dX4_leave_89 0 rfl ?_
    refine zs_get_occupant C hin4 k28 dX4_leave_90 ?_
    refine z_iload_n C dX4_leave_93 2 rfl ?_
    refine z_iconst (v := (-1)) C dX4_leave_94 (by decide) ?_
    refine zs_ast_occupant C (x := 0) (by omega) dX4_leave_95 ?_
    exact z_vret C hr9 hk (()) (rfl) (trivial) (List.Perm.of_eq rfl) dX4_leave_96 (Nat.le_refl _) (Nat.le_refl _)
  refine zs_ald_depth C (x := g 6 b) (by omega) rfl dX4_leave_5 ?_
  refine z_bipush (v := nI 7) C dX4_leave_6 (by decide) ?_
  refine zn_icmp_lt C 46 dX4_leave_8 (by decide) (by omega) (by omega) (fun h1 => ?_) (fun h2 => ?_)
  · refine z_lv [0, 1, 2, 3] rfl ?_
    exact z_eq (cut46 () trivial) (congrArg (fun G => SW κ Sa G ++ []) (show g = lv1G g t b w by simp only [lv1G]; rw [if_neg (by omega)])) rfl rfl rfl
  · refine z_iload_n C dX4_leave_11 3 rfl ?_
    refine z_iconst (v := nI 3) C dX4_leave_12 (by decide) ?_
    refine zn_icmp_lt C 46 dX4_leave_13 (by decide) (by omega) (by omega) (fun h3 => ?_) (fun h4 => ?_)
    · refine z_lv [0, 1, 2, 3] rfl ?_
      exact z_eq (cut46 () trivial) (congrArg (fun G => SW κ Sa G ++ []) (show g = lv1G g t b w by simp only [lv1G]; rw [if_neg (by omega)])) rfl rfl rfl
    · refine z_aload_n C dX4_leave_16 0 rfl ?_
      refine zs_get_wagons C hin4 k37 dX4_leave_17 ?_
      refine z_iload_n C dX4_leave_20 1 rfl ?_
      refine zs_ald_wagons C (x := g 13 t) (by omega) rfl dX4_leave_21 ?_
      refine z_iconst (v := nI 1) C dX4_leave_22 (by decide) ?_
      refine zn_icmp_le C 46 dX4_leave_23 (by decide) (by omega) (by omega) (fun h5 => ?_) (fun h6 => ?_)
      · refine z_lv [0, 1, 2, 3] rfl ?_
        exact z_eq (cut46 () trivial) (congrArg (fun G => SW κ Sa G ++ []) (show g = lv1G g t b w by simp only [lv1G]; rw [if_neg (by omega)])) rfl rfl rfl
      · refine z_aload_n C dX4_leave_26 0 rfl ?_
        refine zs_get_wagons C hin4 k37 dX4_leave_27 ?_
        refine z_iload_n C dX4_leave_30 1 rfl ?_
        refine z_dup2 C dX4_leave_31 rfl rfl ?_
        refine zs_ald_wagons C (x := g 13 t) (by omega) rfl dX4_leave_32 ?_
        refine z_iconst (v := nI 1) C dX4_leave_33 (by decide) ?_
        refine zn_isub C dX4_leave_34 (by omega) ?_
        refine zs_ast_wagons C (by omega) dX4_leave_35 ?_
        refine z_aload_n C dX4_leave_36 0 rfl ?_
        refine zs_get_lost C hin4 k25 dX4_leave_37 ?_
        refine z_iload_n C dX4_leave_40 2 rfl ?_
        refine z_dup2 C dX4_leave_41 rfl rfl ?_
        refine zs_ald_lost C (x := g 9 b) (by omega) rfl dX4_leave_42 ?_
        refine z_iconst (v := nI 1) C dX4_leave_43 (by decide) ?_
        refine zn_iadd C dX4_leave_44 ?_
        refine zs_ast_lost C (by omega) dX4_leave_45 ?_
        refine z_lv [0, 1, 2, 3] rfl ?_
        exact z_eq (cut46 () trivial) (congrArg (fun G => SW κ Sa G ++ []) (show up2 (up2 g 13 t ((g 13 t) - 1)) 9 b ((g 9 b) + 1) = lv1G g t b w by simp only [lv1G]; rw [if_pos (by omega)])) rfl rfl rfl
theorem hdX4_leave : yX4_leave.cls = RX4 ∧ yX4_leave.cls ≠ "java/lang/invoke/MethodHandle" ∧ yX4_leave.cls ≠ "java/lang/invoke/VarHandle" ∧ (parseMethodDescriptor yX4_leave.desc).map (fun d => d.parameters.length) = some 3 := by decide +kernel
set_option maxRecDepth 100000 in
set_option maxHeartbeats 4000000 in
theorem mX4_move (l : Launch) (D : va_G) (κ : Nat → ClassId) (Sa : Nat → Nat) (g : Nat → Nat → Nat) (σ : Nat → Nat) (M : Nat) (t : Nat) (hr : Rep g σ) (hv : Inv M σ) (ht : t < σ 2) (hM : M + 2 < 1073741824) : cR l yX4_move wsX4_move { frames := 2, cells := 0, slots := 0, locals := 44 } D κ Sa [.int (nI t)] g (some (.int (nI (mvE σ t).toNat))) (fun g' => Rep g' (mvS σ t)) := by
  refine zM_of (cc := cX4_move) (maxL := 5) (rt := (some .boolean)) [(0, .ref (Sa 0)), (1, .int (nI t))] (by decide +kernel) rfl (Nat.le_of_ble_eq_true rfl) rfl ?_
  intro p e s m args below meth c A C hr9 hk hnm
  have C : zC p s m args c cX4_move 5 wsX4_move RX4 D (zTy κ) A := C
  have hin4 : ∀ w ∈ wsX40, w ∈ wsX4_move := fun w h => List.mem_cons_of_mem _ (List.mem_append_right _ h)
  have k31 : Cond.fieldLink RX4 31 "PeatRailway$State" "place" "[I" ∈ wsX4_move := by decide +kernel
  have k34 : Cond.fieldLink RX4 34 "PeatRailway$State" "position" "[I" ∈ wsX4_move := by decide +kernel
  have k9 : Cond.fieldLink RX4 9 "PeatRailway$State" "length" "[I" ∈ wsX4_move := by decide +kernel
  have k43 : Cond.fieldLink RX4 43 "PeatRailway$State" "waits" "[I" ∈ wsX4_move := by decide +kernel
  have k28 : Cond.fieldLink RX4 28 "PeatRailway$State" "occupant" "[I" ∈ wsX4_move := by decide +kernel
  have k21 : Cond.fieldLink RX4 21 "PeatRailway$State" "clear" "[Z" ∈ wsX4_move := by decide +kernel
  refine z_eq (ws' := SW κ Sa g ++ []) ?_ rfl rfl rfl rfl
  have hn1 := hv.n1
  have hn2 := hv.n2
  have ht9 := hv.trn ht
  have hb9 := hv.blk ht9.2.2.2.2.1
  have hsp := spd_pos hv.2.1 ht
  refine z_aload_n C dX4_move_0 0 rfl ?_
  refine zs_get_place C hin4 k31 dX4_move_1 ?_
  refine z_iload_n C dX4_move_4 1 rfl ?_
  refine zs_ald_place C (x := σ (65 + 5 * t + 2)) (by omega) (hr.1.t11 (by omega)) dX4_move_5 ?_
  refine z_istore_n C [(2, .int (nI (σ (65 + 5 * t + 2)))), (0, .ref (Sa 0)), (1, .int (nI t))] dX4_move_6 (by decide) rfl ?_
  refine z_aload_n C dX4_move_7 1 rfl ?_
  refine z_iload_n C dX4_move_8 2 rfl ?_
  refine zc_call C (mX4_speedNow l D κ Sa _ _ _ t hr hv (by omega)) gX4_move_X4_speedNow rfl rfl rfl hdX4_speedNow ⟨Nat.le_of_ble_eq_true rfl, Nat.le_of_ble_eq_true rfl⟩ rfl (Nat.le_of_ble_eq_true rfl) dX4_move_9 ⟨Nat.zero_le _, Nat.zero_le _⟩ ?_
  refine z_istore_n C [(3, .int (nI (spd σ t))), (2, .int (nI (σ (65 + 5 * t + 2)))), (0, .ref (Sa 0)), (1, .int (nI t))] dX4_move_12 (by decide) rfl ?_
  refine z_aload_n C dX4_move_13 2 rfl ?_
  refine zs_get_position C hin4 k34 dX4_move_14 ?_
  refine z_iload_n C dX4_move_17 3 rfl ?_
  refine z_aload_n C dX4_move_18 2 rfl ?_
  refine zs_get_position C hin4 k34 dX4_move_19 ?_
  refine z_iload_n C dX4_move_22 3 rfl ?_
  refine zs_ald_position C (x := σ (65 + 5 * t + 3)) (by omega) (hr.1.t12 (by omega)) dX4_move_23 ?_
  refine z_iload_n C dX4_move_24 0 rfl ?_
  refine zn_iadd C dX4_move_25 ?_
  refine z_aload_n C dX4_move_26 2 rfl ?_
  refine zs_get_length C hin4 k9 dX4_move_27 ?_
  refine z_iload_n C dX4_move_30 1 rfl ?_
  refine zs_ald_length C (x := σ (5 + 6 * (σ (65 + 5 * t + 2)) + 0)) (by omega) (hr.1.b5 (by omega)) dX4_move_31 ?_
  refine zn_min C (show Cond.methodLink RX4 75 Lib.Math.min.name ∈ wsX4_move from by decide +kernel) (by decide +kernel) (by decide +kernel) (by decide +kernel) (by omega) (by omega) ⟨Nat.le_of_ble_eq_true rfl, Nat.le_of_ble_eq_true rfl⟩ (Nat.le_of_ble_eq_true rfl) dX4_move_32 ⟨Nat.zero_le _, Nat.zero_le _⟩ ?_
  obtain ⟨X9, hX0⟩ : ∃ X9, X9 = if σ (5 + 6 * σ (65 + 5 * t + 2) + 0) < σ (65 + 5 * t + 3) + spd σ t then σ (5 + 6 * σ (65 + 5 * t + 2) + 0) else σ (65 + 5 * t + 3) + spd σ t := ⟨_, rfl⟩
  rw [← hX0]
  have hX := mv1_X hX0
  have hX2 : X9 ≤ σ (5 + 6 * σ (65 + 5 * t + 2) + 0) := by rw [hX0]; split <;> omega
  refine zs_ast_position C (by omega) dX4_move_35 ?_
  have hr1 : Rep (up2 g 12 t X9) (mv1 σ t) := by
    rw [hX]
    exact hr.of (hr.1.pos hn1 hn2 (by omega)) rfl (upN_n (by omega)) (upN_n (by omega)) (fun u hu => upN_n (by omega))
  have hv1 := hv.mv1 ht
  have hm1 : mv1 σ t 1 = σ 1 := mv1_lo (by omega)
  have hm2 : mv1 σ t 2 = σ 2 := mv1_lo (by omega)
  refine z_aload_n C dX4_move_36 2 rfl ?_
  refine zs_get_position C hin4 k34 dX4_move_37 ?_
  refine z_iload_n C dX4_move_40 3 rfl ?_
  refine zs_ald_position C (x := X9) (by omega) (show up2 g 12 t X9 12 t = X9 from up2_s) dX4_move_41 ?_
  refine z_aload_n C dX4_move_42 2 rfl ?_
  refine zs_get_length C hin4 k9 dX4_move_43 ?_
  refine z_iload_n C dX4_move_46 1 rfl ?_
  refine zs_ald_length C (x := σ (5 + 6 * (σ (65 + 5 * t + 2)) + 0)) (by omega) (hr.1.b5 (by omega)) dX4_move_47 ?_
  refine zn_icmp_ge C 53 dX4_move_48 (by decide) (by omega) (by omega) (fun h1 => ?_) (fun h2 => ?_)
  · have ha9 := aft_lt (σ := mv1 σ t) (b := σ (65 + 5 * t + 2)) (by omega)
    refine z_aload_n C dX4_move_53 2 rfl ?_
    refine z_iload_n C dX4_move_54 1 rfl ?_
    refine zc_call C (mX4_nextBlock l D κ Sa _ _ _ (σ (65 + 5 * t + 2)) hr1 hv1 (by omega)) gX4_move_X4_nextBlock rfl rfl rfl hdX4_nextBlock ⟨Nat.le_of_ble_eq_true rfl, Nat.le_of_ble_eq_true rfl⟩ rfl (Nat.le_of_ble_eq_true rfl) dX4_move_55 ⟨Nat.zero_le _, Nat.zero_le _⟩ ?_
    refine z_istore C [(4, .int (nI (aft (mv1 σ t) (σ (65 + 5 * t + 2))))), (3, .int (nI (spd σ t))), (2, .int (nI (σ (65 + 5 * t + 2)))), (0, .ref (Sa 0)), (1, .int (nI t))] dX4_move_58 (by decide) rfl ?_
    refine z_aload_n C dX4_move_60 3 rfl ?_
    refine z_iload C dX4_move_61 0 rfl ?_
    refine zc_call C (mX4_opensTo l D κ Sa _ _ _ (aft (mv1 σ t) (σ (65 + 5 * t + 2))) hr1 hv1 (by omega)) gX4_move_X4_opensTo rfl rfl rfl hdX4_opensTo ⟨Nat.le_of_ble_eq_true rfl, Nat.le_of_ble_eq_true rfl⟩ rfl (Nat.le_of_ble_eq_true rfl) dX4_move_63 ⟨Nat.zero_le _, Nat.zero_le _⟩ ?_
    refine zb_if_ne C 81 dX4_move_66 (by decide) (fun h3 => ?_) (fun h4 => ?_)
    · obtain ⟨hg1, hg2, hg3⟩ := mv_go hv ht hX (by omega) h3
      have hl6 : (up2 g 12 t X9) 6 (σ (65 + 5 * t + 2)) ≤ 9 := by rw [hr1.1.b6 (by omega)]; exact (hv1.blk (by omega)).2.2.1
      have hl13 : (up2 g 12 t X9) 13 t ≤ 12 := by rw [hr1.1.t13 (by omega)]; exact (hv1.trn (by omega)).2.1
      have hspd : spd (mv1 σ t) t = spd σ t := by simp only [spd]; rw [mv1_pl, mv1_at (by omega), mv1_at (by omega)]
      refine z_aload_n C dX4_move_81 3 rfl ?_
      refine z_iload_n C dX4_move_82 4 rfl ?_
      refine z_iload_n C dX4_move_83 2 rfl ?_
      refine z_iload_n C dX4_move_84 1 rfl ?_
      refine zc_call C (mX4_leave l D κ Sa _ t (σ (65 + 5 * t + 2)) (spd σ t) (by omega) (by omega) (by omega) hl6 hl13) gX4_move_X4_leave rfl rfl rfl hdX4_leave ⟨Nat.le_of_ble_eq_true rfl, Nat.le_of_ble_eq_true rfl⟩ rfl (Nat.le_of_ble_eq_true rfl) dX4_move_85 ⟨Nat.zero_le _, Nat.zero_le _⟩ ?_
      refine z_aload_n C dX4_move_88 3 rfl ?_
      refine zs_get_place C hin4 k31 dX4_move_89 ?_
      refine z_iload_n C dX4_move_92 4 rfl ?_
      refine z_iload C dX4_move_93 0 rfl ?_
      refine zs_ast_place C (by omega) dX4_move_95 ?_
      refine z_aload_n C dX4_move_96 3 rfl ?_
      refine zs_get_position C hin4 k34 dX4_move_97 ?_
      refine z_iload_n C dX4_move_100 4 rfl ?_
      refine z_iconst (v := nI 0) C dX4_move_101 (by decide) ?_
      refine zs_ast_position C (by omega) dX4_move_102 ?_
      refine z_aload_n C dX4_move_103 3 rfl ?_
      refine zs_get_occupant C hin4 k28 dX4_move_104 ?_
      refine z_iload C dX4_move_107 0 rfl ?_
      refine z_iload_n C dX4_move_109 4 rfl ?_
      refine zs_ast_occupant C (x := t + 1) (by omega) dX4_move_110 ?_
      refine z_aload_n C dX4_move_111 3 rfl ?_
      refine zs_get_clear C hin4 k21 dX4_move_112 ?_
      refine z_iload C dX4_move_115 0 rfl ?_
      refine z_iconst (v := nI 0) C dX4_move_117 (by decide) ?_
      refine zs_ast_clear C (by omega) (by omega) dX4_move_118 ?_
      refine z_iconst (v := nI 1) C dX4_move_119 (by decide) ?_
      exact z_zret C hr9 hk (by decide) (up2 (up2 (up2 (up2 (lvG (up2 g 12 t X9) t (σ (65 + 5 * t + 2)) (spd σ t)) 11 t (aft (mv1 σ t) (σ (65 + 5 * t + 2)))) 12 t 0) 10 (aft (mv1 σ t) (σ (65 + 5 * t + 2))) (t + 1)) 8 (aft (mv1 σ t) (σ (65 + 5 * t + 2))) 0) (congrArg (fun b : Bool => some (Value.int (nI b.toNat))) (show (mvE σ t) = true from by exact hg2)) (by rw [hg1]; have hq := Rep_mv2 hr1 hv1 hM (t := t) (n := aft (mv1 σ t) (σ (65 + 5 * t + 2))) (by omega) ha9 hg3; rw [hspd, mv1_pl] at hq; exact hq) (List.Perm.of_eq rfl) dX4_move_120 (Nat.le_refl _) (Nat.le_refl _)
    · refine z_aload_n C dX4_move_69 3 rfl ?_
      refine zs_get_waits C hin4 k43 dX4_move_70 ?_
      refine z_iload_n C dX4_move_73 4 rfl ?_
      refine z_dup2 C dX4_move_74 rfl rfl ?_
      refine zs_ald_waits C (x := (mv1 σ t) (65 + 5 * t + 4)) (by omega) (hr1.1.t15 (by omega)) dX4_move_75 ?_
      refine z_iconst (v := nI 1) C dX4_move_76 (by decide) ?_
      refine zn_iadd C dX4_move_77 ?_
      refine zs_ast_waits C (by omega) dX4_move_78 ?_
      refine z_iconst (v := nI 0) C dX4_move_79 (by decide) ?_
      exact z_zret C hr9 hk (by decide) (up2 (up2 g 12 t X9) 15 t (((mv1 σ t) (65 + 5 * t + 4)) + 1)) (congrArg (fun b : Bool => some (Value.int (nI b.toNat))) (show (mvE σ t) = false from by exact (mv_wt hv ht hX (by omega) h4).2)) (by rw [(mv_wt hv ht hX (by omega) h4).1]; exact hr1.of (hr1.1.wait (by omega) (by omega) (by omega)) rfl (upN_n (by omega)) (upN_n (by omega)) (fun u hu => upN_n (by omega))) (List.Perm.of_eq rfl) dX4_move_80 (Nat.le_refl _) (Nat.le_refl _)
  · refine z_iconst (v := nI 0) C dX4_move_51 (by decide) ?_
    exact z_zret C hr9 hk (by decide) (up2 g 12 t X9) (congrArg (fun b : Bool => some (Value.int (nI b.toNat))) (show (mvE σ t) = false from by exact (mv_no hv ht hX h2).2)) (by rw [(mv_no hv ht hX h2).1]; exact hr1) (List.Perm.of_eq rfl) dX4_move_52 (Nat.le_refl _) (Nat.le_refl _)
theorem hdX4_move : yX4_move.cls = RX4 ∧ yX4_move.cls ≠ "java/lang/invoke/MethodHandle" ∧ yX4_move.cls ≠ "java/lang/invoke/VarHandle" ∧ (parseMethodDescriptor yX4_move.desc).map (fun d => d.parameters.length) = some 1 := by decide +kernel
set_option maxRecDepth 100000 in
set_option maxHeartbeats 4000000 in
theorem mX4_pass (l : Launch) (D : va_G) (κ : Nat → ClassId) (Sa : Nat → Nat) (g : Nat → Nat → Nat) (σ : Nat → Nat) (M : Nat) (n : Nat) (hr : Rep g σ) (hv : Inv M σ) (hM : M + 11 * n + 11 < 1073741824) : cR l yX4_pass wsX4_pass { frames := 3, cells := 0, slots := 0, locals := 68 } D κ Sa [.int (nI n)] g (some (.int (nI (psE n σ)))) (fun g' => Rep g' (psS n σ)) := by
  refine zM_of (cc := cX4_pass) (maxL := 5) (rt := (some .int)) [(0, .ref (Sa 0)), (1, .int (nI n))] (by decide +kernel) rfl (Nat.le_of_ble_eq_true rfl) rfl ?_
  intro p e s m args below meth c A C hr9 hk hnm
  have C : zC p s m args c cX4_pass 5 wsX4_pass RX4 D (zTy κ) A := C
  have hin4 : ∀ w ∈ wsX40, w ∈ wsX4_pass := fun w h => List.mem_cons_of_mem _ (List.mem_append_right _ h)
  have k49 : Cond.fieldLink RX4 49 "PeatRailway$State" "tick" "I" ∈ wsX4_pass := by decide +kernel
  have k56 : Cond.fieldLink RX4 56 "PeatRailway$State" "trainCount" "I" ∈ wsX4_pass := by decide +kernel
  refine z_eq (ws' := SW κ Sa g ++ []) ?_ rfl rfl rfl rfl
  refine z_iconst (v := nI 0) C dX4_pass_0 (by decide) ?_
  refine z_istore_n C [(2, .int (nI 0)), (0, .ref (Sa 0)), (1, .int (nI n))] dX4_pass_1 (by decide) rfl ?_
  refine z_iconst (v := nI 0) C dX4_pass_2 (by decide) ?_
  refine z_istore_n C [(3, .int (nI 0)), (2, .int (nI 0)), (0, .ref (Sa 0)), (1, .int (nI n))] dX4_pass_3 (by decide) rfl ?_
  refine z_lv [2, 3, 1, 0] rfl ?_
  refine z_loop (σ := Nat × (Nat → Nat → Nat) × (Nat → Nat) × Nat) (fun x => SW κ Sa x.2.1 ++ []) (fun x => [(0, .ref (Sa 0)), (1, .int (nI n)), (2, .int (nI x.2.2.2)), (3, .int (nI x.1))]) (fun x => x.1 ≤ n ∧ Rep x.2.1 x.2.2.1 ∧ Inv (M + 11 * x.1) x.2.2.1 ∧ psS (n - x.1) x.2.2.1 = psS n σ ∧ x.2.2.2 + psE (n - x.1) x.2.2.1 = psE n σ) (fun x => n - x.1) ((0, g, σ, 0)) (⟨Nat.zero_le _, hr, hv, rfl, Nat.zero_add _⟩) rfl rfl ?_
  rintro ⟨k, g1, τ, e0⟩ hI4 ih4
  dsimp only at hI4 ih4 ⊢
  obtain ⟨hi1, hi2, hi3, hi4, hi5⟩ := hI4
  have hn2 := hi3.n2
  refine z_iload_n C dX4_pass_4 3 rfl ?_
  refine z_iload_n C dX4_pass_5 1 rfl ?_
  refine zn_icmp_ge C 55 dX4_pass_6 (by decide) (by omega) (by omega) (fun h1 => ?_) (fun h2 => ?_)
  · refine z_iload_n C dX4_pass_55 2 rfl ?_
    exact z_iret C hr9 hk (g1) (congrArg (fun n => some (Value.int (nI n))) (show psE n σ = e0 from by rw [show n - k = 0 from by omega] at hi5; exact hi5.symm)) (by rw [show n - k = 0 from by omega] at hi4; rw [← hi4]; exact hi2) (List.Perm.of_eq rfl) dX4_pass_56 (Nat.le_refl _) (Nat.le_refl _)
  · have hy0 : n - k = (n - (k + 1)) + 1 := by omega
    rw [hy0] at hi4 hi5
    have hi4 : psS (n - (k + 1)) (tkS τ) = psS n σ := hi4
    have hi5 : e0 + (tkE τ + psE (n - (k + 1)) (tkS τ)) = psE n σ := hi5
    refine z_aload_n C dX4_pass_9 0 rfl ?_
    refine z_dup C dX4_pass_10 rfl ?_
    refine zs_get_tick C hin4 (x := τ 0) k49 dX4_pass_11 hi2.1.s0 ?_
    refine z_iconst (v := nI 1) C dX4_pass_14 (by decide) ?_
    refine zn_iadd C dX4_pass_15 ?_
    refine zs_put_tick C hin4 k49 dX4_pass_16 ?_
    have ht0 : Rep (up2 g1 0 0 (τ 0 + 1)) (upN τ 0 (τ 0 + 1)) := hi2.of (hi2.1.tick hi3.n1 hi3.n2) rfl (upN_n (by decide)) (upN_n (by decide)) (fun u hu => upN_n (by omega))
    have ht1 : Inv (M + 11 * k + 1) (upN τ 0 (τ 0 + 1)) := hi3.tick (by omega)
    have ht2 : upN τ 0 (τ 0 + 1) 2 = τ 2 := upN_n (by decide)
    refine z_iconst (v := nI 0) C dX4_pass_19 (by decide) ?_
    refine z_istore C [(4, .int (nI 0)), (0, .ref (Sa 0)), (1, .int (nI n)), (2, .int (nI e0)), (3, .int (nI k))] dX4_pass_20 (by decide) rfl ?_
    refine z_lv [1, 2, 3, 4, 0] rfl ?_
    refine z_loop (σ := Nat × (Nat → Nat → Nat) × (Nat → Nat) × Nat) (fun x => SW κ Sa x.2.1 ++ []) (fun x => [(0, .ref (Sa 0)), (1, .int (nI n)), (2, .int (nI x.2.2.2)), (3, .int (nI k)), (4, .int (nI x.1))]) (fun x => x.1 ≤ τ 2 ∧ Rep x.2.1 x.2.2.1 ∧ Inv (M + 11 * k + 1 + 2 * x.1) x.2.2.1 ∧ x.2.2.1 2 = τ 2 ∧ mvLS (τ 2 - x.1) x.1 x.2.2.1 = tkS τ ∧ x.2.2.2 + mvLE (τ 2 - x.1) x.1 x.2.2.1 = e0 + tkE τ) (fun x => τ 2 - x.1) ((0, up2 g1 0 0 (τ 0 + 1), upN τ 0 (τ 0 + 1), e0)) (⟨Nat.zero_le _, ht0, ht1, ht2, rfl, rfl⟩) rfl rfl ?_
    rintro ⟨j, g2, υ, e2⟩ hI22 ih22
    dsimp only at hI22 ih22 ⊢
    obtain ⟨hj1, hj2, hj3, hj6, hj4, hj5⟩ := hI22
    refine z_iload C dX4_pass_22 4 rfl ?_
    refine z_aload_n C dX4_pass_24 0 rfl ?_
    refine zs_get_trainCount C hin4 (x := υ 2) k56 dX4_pass_25 hj2.1.s2 ?_
    refine zn_icmp_ge C 49 dX4_pass_28 (by decide) (by omega) (by omega) (fun h3 => ?_) (fun h4 => ?_)
    · have hz0 : τ 2 - j = 0 := by omega
      rw [hz0] at hj4 hj5
      have hj4 : υ = tkS τ := hj4
      have hj5 : e2 + 0 = e0 + tkE τ := hj5
      refine zn_iinc (n := 1) C [(3, .int (nI (k + 1))), (0, .ref (Sa 0)), (1, .int (nI n)), (2, .int (nI e2)), (4, .int (nI j))] dX4_pass_49 3 rfl (by decide) rfl ?_
      refine z_goto (tgt := 4) C dX4_pass_52 (by decide) ?_
      refine z_lv [1, 2, 3, 0] rfl ?_
      exact ih4 (k + 1, g2, υ, e2) ⟨by dsimp only; omega, hj2, (by rw [show M + 11 * (k + 1) = M + 11 * k + 11 from by omega]; exact hj3.mono (by omega) (by omega)), by dsimp only; rw [hj4]; exact hi4, by dsimp only; rw [hj4]; omega⟩ (by dsimp only; omega)
    · have hz0 : τ 2 - j = (τ 2 - (j + 1)) + 1 := by omega
      have hz1 := hj4
      rw [hz0] at hz1
      have hz2 := hj5
      rw [hz0] at hz2
      have hz1 : mvLS (τ 2 - (j + 1)) (j + 1) (mvS υ j) = tkS τ := hz1
      have hz2 : e2 + ((mvE υ j).toNat + mvLE (τ 2 - (j + 1)) (j + 1) (mvS υ j)) = e0 + tkE τ := hz2
      refine z_aload_n C dX4_pass_31 0 rfl ?_
      refine z_iload C dX4_pass_32 4 rfl ?_
      refine zc_callR C (mX4_move l D κ Sa _ _ _ j hj2 hj3 (by omega) (by omega)) gX4_pass_X4_move rfl rfl rfl hdX4_move ⟨Nat.le_of_ble_eq_true rfl, Nat.le_of_ble_eq_true rfl⟩ rfl (Nat.le_of_ble_eq_true rfl) dX4_pass_34 ⟨Nat.zero_le _, Nat.zero_le _⟩ (fun ga1 hga1 => ?_)
      refine zb_if_eq C 43 dX4_pass_37 (by decide) (fun h5 => ?_) (fun h6 => ?_)
      · refine zn_iinc (n := 1) C [(4, .int (nI (j + 1))), (0, .ref (Sa 0)), (1, .int (nI n)), (2, .int (nI e2)), (3, .int (nI k))] dX4_pass_43 4 rfl (by decide) rfl ?_
        refine z_goto (tgt := 22) C dX4_pass_46 (by decide) ?_
        refine z_lv [1, 2, 3, 4, 0] rfl ?_
        exact ih22 (j + 1, ga1, mvS υ j, e2) ⟨by dsimp only; omega, hga1, (by dsimp only; rw [show M + 11 * k + 1 + 2 * (j + 1) = M + 11 * k + 1 + 2 * j + 2 from by omega]; exact mvS_inv hj3 (by omega) (by omega)), by dsimp only; rw [mvS_lo (by omega)]; exact hj6, by dsimp only; exact hz1, by dsimp only; rw [h5] at hz2; simp only [Bool.toNat, cond_true, cond_false] at hz2; omega⟩ (by dsimp only; omega)
      · refine zn_iinc (n := 1) C [(2, .int (nI (e2 + 1))), (0, .ref (Sa 0)), (1, .int (nI n)), (3, .int (nI k)), (4, .int (nI j))] dX4_pass_40 2 rfl (by decide) rfl ?_
        refine zn_iinc (n := 1) C [(4, .int (nI (j + 1))), (2, .int (nI (e2 + 1))), (0, .ref (Sa 0)), (1, .int (nI n)), (3, .int (nI k))] dX4_pass_43 4 rfl (by decide) rfl ?_
        refine z_goto (tgt := 22) C dX4_pass_46 (by decide) ?_
        refine z_lv [2, 3, 1, 4, 0] rfl ?_
        exact ih22 (j + 1, ga1, mvS υ j, (e2 + 1)) ⟨by dsimp only; omega, hga1, (by dsimp only; rw [show M + 11 * k + 1 + 2 * (j + 1) = M + 11 * k + 1 + 2 * j + 2 from by omega]; exact mvS_inv hj3 (by omega) (by omega)), by dsimp only; rw [mvS_lo (by omega)]; exact hj6, by dsimp only; exact hz1, by dsimp only; rw [h6] at hz2; simp only [Bool.toNat, cond_true, cond_false] at hz2; omega⟩ (by dsimp only; omega)
theorem hdX4_pass : yX4_pass.cls = RX4 ∧ yX4_pass.cls ≠ "java/lang/invoke/MethodHandle" ∧ yX4_pass.cls ≠ "java/lang/invoke/VarHandle" ∧ (parseMethodDescriptor yX4_pass.desc).map (fun d => d.parameters.length) = some 1 := by decide +kernel
end S2
