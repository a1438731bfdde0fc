section Q3
/-- a contract over the parser alone, in the context -/
abbrev pMc (adK adV : Nat → Nat) (l : Launch) (y : MethodName) (wsw : List Cond) (rm : Room) (D : va_G) (κ : Nat → ClassId) (Pa Sa : Nat → Nat) (As : List Value) (eo : Int32) (v : Nat → Nat) (tx : Nat → Int32) (ret : Option Value) (eo' : Int32) (v' : Nat → Nat) (tx' : Nat → Int32) : Prop :=
  zMc (cX adK adV) l y wsw rm D (zTy κ) (.ref (Pa 0) :: As) (PW κ Pa Sa eo v tx) (S := Unit) (fun _ => ret) (fun _ => True) (fun _ => PW κ Pa Sa eo' v' tx') 0 0
theorem wd_step {tx : Nat → Int32} {f k : Nat} {g : Nat → Nat} (h : ∀ j, j < k → tx (f + j) = nI (g j)) (h1 : tx (f + k) = nI (g k)) : ∀ j, j < k + 1 → tx (f + j) = nI (g j) := by
  intro j hj
  rcases Nat.lt_or_ge j k with q | q
  · exact h j q
  · have : j = k := by omega
    subst this
    exact h1
set_option maxRecDepth 100000 in
set_option maxHeartbeats 4000000 in
theorem mX2_takeWord_yes (l : Launch) (D : va_G) (κ : Nat → ClassId) (adK adV : Nat → Nat) (Pa Sa : Nat → Nat) (eo : Int32) (v : Nat → Nat) (tx : Nat → Int32) (i : Nat) (h5 : v 5 ≤ 600) (h78 : v 7 ≤ v 8) (h8 : v 8 ≤ v 5) (hi : i < 28) (h6 : v 6 = 1) (hl : v 8 - v 7 = sLen.getD i 0) (hal : ∀ k, k < sLen.getD i 0 → tx (v 7 + k) = nI (sCh i k)) : pMc adK adV l yX2_takeWord wsX2_takeWord { frames := 4, cells := 0, slots := 0, locals := 85 } D κ Pa Sa [.ref (adK i)] eo v tx (some (.int (nI 1))) eo (rdV tx v) tx := by
  refine zMc_of (cc := cX2_takeWord) (maxL := 3) (rt := (some .boolean)) [(0, .ref (Pa 0)), (1, .ref (adK i))] (by decide +kernel) rfl (Nat.le_of_ble_eq_true rfl) rfl ?_
  intro p e s m args below meth c A C hr9 hk hnm hX
  have C : zC p s m args c cX2_takeWord 3 wsX2_takeWord RX2 D (zTy κ) A := C
  have hin2 : ∀ w ∈ wsX20, w ∈ wsX2_takeWord := fun w h => List.mem_cons_of_mem _ (List.mem_append_left _ (List.mem_append_right _ h))
  have k58 : Cond.fieldLink RX2 58 "PeatRailway$Parser" "token" "I" ∈ wsX2_takeWord := by decide +kernel
  have k64 : Cond.fieldLink RX2 64 "PeatRailway$Parser" "tokenEnd" "I" ∈ wsX2_takeWord := by decide +kernel
  have k61 : Cond.fieldLink RX2 61 "PeatRailway$Parser" "tokenStart" "I" ∈ wsX2_takeWord := by decide +kernel
  have k11 : Cond.fieldLink RX2 11 "PeatRailway$Parser" "text" "[B" ∈ wsX2_takeWord := by decide +kernel
  refine z_eq (ws' := PW κ Pa Sa eo v tx ++ []) ?_ rfl rfl rfl rfl
  have hs9 := sc_all i hi
  refine z_aload_n C dX2_takeWord_0 0 rfl ?_
  refine zp_get_token C hin2 (x := v 6) k58 dX2_takeWord_1 rfl ?_
  refine z_iconst (v := nI 1) C dX2_takeWord_4 (by decide) ?_
  refine zn_icmp_ne C 24 dX2_takeWord_5 (by decide) (by omega) (by omega) (fun h1 => ?_) (fun h2 => ?_)
  · exfalso; omega
  · refine z_aload_n C dX2_takeWord_8 0 rfl ?_
    refine zp_get_tokenEnd C hin2 (x := v 8) k64 dX2_takeWord_9 rfl ?_
    refine z_aload_n C dX2_takeWord_12 0 rfl ?_
    refine zp_get_tokenStart C hin2 (x := v 7) k61 dX2_takeWord_13 rfl ?_
    refine zn_isub C dX2_takeWord_16 (by omega) ?_
    refine z_aload_n C dX2_takeWord_17 1 rfl ?_
    refine z_callT C (wc := []) (cX_ok adK adV) hX (mJ0_length_8abf5 l D κ adK adV i hi) gX2_takeWord_J0_length_8abf5 rfl rfl rfl hdJ0_length_8abf5 ⟨Nat.le_of_ble_eq_true rfl, Nat.le_of_ble_eq_true rfl⟩ ⟨adK, adV, i, hi, rfl, hX.2.2.2.2.1⟩ rfl (PW κ Pa Sa eo v tx ++ []) (fun _ => PW κ Pa Sa eo v tx ++ []) (List.Perm.refl _) (fun _ => List.Perm.refl _) rfl (Nat.le_of_ble_eq_true rfl) dX2_takeWord_18 ⟨Nat.zero_le _, Nat.zero_le _⟩ (fun _ _ => ?_)
    refine zn_icmp_eq C 26 dX2_takeWord_21 (by decide) (by omega) (by omega) (fun h3 => ?_) (fun h4 => ?_)
    · refine z_iconst (v := nI 0) C dX2_takeWord_26 (by decide) ?_
      refine z_istore_n C [(2, .int (nI 0)), (0, .ref (Pa 0)), (1, .ref (adK i))] dX2_takeWord_27 (by decide) rfl ?_
      refine z_lv [1, 2, 0] rfl ?_
      refine z_loop (σ := Nat) (fun k => PW κ Pa Sa eo v tx ++ []) (fun k => [(0, .ref (Pa 0)), (1, .ref (adK i)), (2, .int (nI k))]) (fun k => k ≤ sLen.getD i 0 ∧ ∀ j, j < k → tx (v 7 + j) = nI (sCh i j)) (fun k => sLen.getD i 0 - k) (0) (⟨Nat.zero_le _, fun j hj => absurd hj (Nat.not_lt_zero _)⟩) rfl rfl ?_
      rintro k hI28 ih28
      obtain ⟨hk1, hk2⟩ := hI28
      refine z_iload_n C dX2_takeWord_28 2 rfl ?_
      refine z_aload_n C dX2_takeWord_29 1 rfl ?_
      refine z_callT C (wc := []) (cX_ok adK adV) hX (mJ0_length_8abf5 l D κ adK adV i hi) gX2_takeWord_J0_length_8abf5 rfl rfl rfl hdJ0_length_8abf5 ⟨Nat.le_of_ble_eq_true rfl, Nat.le_of_ble_eq_true rfl⟩ ⟨adK, adV, i, hi, rfl, hX.2.2.2.2.1⟩ rfl (PW κ Pa Sa eo v tx ++ []) (fun _ => PW κ Pa Sa eo v tx ++ []) (List.Perm.refl _) (fun _ => List.Perm.refl _) rfl (Nat.le_of_ble_eq_true rfl) dX2_takeWord_30 ⟨Nat.zero_le _, Nat.zero_le _⟩ (fun _ _ => ?_)
      refine zn_icmp_ge C 63 dX2_takeWord_33 (by decide) (by omega) (by omega) (fun h5 => ?_) (fun h6 => ?_)
      · refine z_aload_n C dX2_takeWord_63 0 rfl ?_
        refine zp_call C (mX2_readToken l D κ Pa Sa _ _ _ (by omega) (by omega) (by omega) (by omega)) gX2_takeWord_X2_readToken rfl rfl rfl hdX2_readToken ⟨Nat.le_of_ble_eq_true rfl, Nat.le_of_ble_eq_true rfl⟩ rfl (Nat.le_of_ble_eq_true rfl) dX2_takeWord_64 ⟨Nat.zero_le _, Nat.zero_le _⟩ ?_
        refine z_iconst (v := nI 1) C dX2_takeWord_67 (by decide) ?_
        exact z_zret C hr9 hk (by decide) (()) (rfl) (trivial) (List.Perm.of_eq rfl) dX2_takeWord_68 (Nat.le_refl _) (Nat.le_refl _)
      · refine z_aload_n C dX2_takeWord_36 0 rfl ?_
        refine zp_get_text C hin2 k11 dX2_takeWord_37 ?_
        refine z_aload_n C dX2_takeWord_40 0 rfl ?_
        refine zp_get_tokenStart C hin2 (x := v 7) k61 dX2_takeWord_41 rfl ?_
        refine z_iload_n C dX2_takeWord_44 2 rfl ?_
        refine zn_iadd C dX2_takeWord_45 ?_
        refine zp_ald C (by omega) dX2_takeWord_46 ?_
        refine z_aload_n C dX2_takeWord_47 1 rfl ?_
        refine z_iload_n C dX2_takeWord_48 2 rfl ?_
        refine z_callT C (wc := []) (cX_ok adK adV) hX (mJ0_charAt_5068e l D κ adK adV i hi k (by omega)) gX2_takeWord_J0_charAt_5068e rfl rfl rfl hdJ0_charAt_5068e ⟨Nat.le_of_ble_eq_true rfl, Nat.le_of_ble_eq_true rfl⟩ ⟨adK, adV, i, hi, rfl, hX.2.2.2.2.1⟩ rfl (PW κ Pa Sa eo v tx ++ []) (fun _ => PW κ Pa Sa eo v tx ++ []) (List.Perm.refl _) (fun _ => List.Perm.refl _) rfl (Nat.le_of_ble_eq_true rfl) dX2_takeWord_49 ⟨Nat.zero_le _, Nat.zero_le _⟩ (fun _ _ => ?_)
        refine z_icmp_eq C 57 dX2_takeWord_52 (by decide) (fun h7 => ?_) (fun h8 => ?_)
        · refine zn_iinc (n := 1) C [(2, .int (nI (k + 1))), (0, .ref (Pa 0)), (1, .ref (adK i))] dX2_takeWord_57 2 rfl (by decide) rfl ?_
          refine z_goto (tgt := 28) C dX2_takeWord_60 (by decide) ?_
          refine z_lv [1, 2, 0] rfl ?_
          exact ih28 (k + 1) ⟨by omega, wd_step hk2 h7⟩ (by omega)
        · exact absurd (hal k (by omega)) h8
    · exfalso; omega
theorem hdX2_takeWord : yX2_takeWord.cls = RX2 ∧ yX2_takeWord.cls ≠ "java/lang/invoke/MethodHandle" ∧ yX2_takeWord.cls ≠ "java/lang/invoke/VarHandle" ∧ (parseMethodDescriptor yX2_takeWord.desc).map (fun d => d.parameters.length) = some 1 := by decide +kernel
set_option maxRecDepth 100000 in
set_option maxHeartbeats 4000000 in
theorem mX2_takeWord_no (l : Launch) (D : va_G) (κ : Nat → ClassId) (adK adV : Nat → Nat) (Pa Sa : Nat → Nat) (eo : Int32) (v : Nat → Nat) (tx : Nat → Int32) (i : Nat) (h5 : v 5 ≤ 600) (h78 : v 7 ≤ v 8) (h8 : v 8 ≤ v 5) (hi : i < 28) (h9 : v 6 ≤ 4) (hno : v 6 = 1 → v 8 - v 7 = sLen.getD i 0 → ¬ ∀ k, k < sLen.getD i 0 → tx (v 7 + k) = nI (sCh i k)) : pMc adK adV l yX2_takeWord wsX2_takeWord { frames := 4, cells := 0, slots := 0, locals := 85 } D κ Pa Sa [.ref (adK i)] eo v tx (some (.int (nI 0))) eo v tx := by
  refine zMc_of (cc := cX2_takeWord) (maxL := 3) (rt := (some .boolean)) [(0, .ref (Pa 0)), (1, .ref (adK i))] (by decide +kernel) rfl (Nat.le_of_ble_eq_true rfl) rfl ?_
  intro p e s m args below meth c A C hr9 hk hnm hX
  have C : zC p s m args c cX2_takeWord 3 wsX2_takeWord RX2 D (zTy κ) A := C
  have hin2 : ∀ w ∈ wsX20, w ∈ wsX2_takeWord := fun w h => List.mem_cons_of_mem _ (List.mem_append_left _ (List.mem_append_right _ h))
  have k58 : Cond.fieldLink RX2 58 "PeatRailway$Parser" "token" "I" ∈ wsX2_takeWord := by decide +kernel
  have k64 : Cond.fieldLink RX2 64 "PeatRailway$Parser" "tokenEnd" "I" ∈ wsX2_takeWord := by decide +kernel
  have k61 : Cond.fieldLink RX2 61 "PeatRailway$Parser" "tokenStart" "I" ∈ wsX2_takeWord := by decide +kernel
  have k11 : Cond.fieldLink RX2 11 "PeatRailway$Parser" "text" "[B" ∈ wsX2_takeWord := by decide +kernel
  refine z_eq (ws' := PW κ Pa Sa eo v tx ++ []) ?_ rfl rfl rfl rfl
  have hs9 := sc_all i hi
  refine z_aload_n C dX2_takeWord_0 0 rfl ?_
  refine zp_get_token C hin2 (x := v 6) k58 dX2_takeWord_1 rfl ?_
  refine z_iconst (v := nI 1) C dX2_takeWord_4 (by decide) ?_
  refine zn_icmp_ne C 24 dX2_takeWord_5 (by decide) (by omega) (by omega) (fun h1 => ?_) (fun h2 => ?_)
  · refine z_iconst (v := nI 0) C dX2_takeWord_24 (by decide) ?_
    exact z_zret C hr9 hk (by decide) (()) (rfl) (trivial) (List.Perm.of_eq rfl) dX2_takeWord_25 (Nat.le_refl _) (Nat.le_refl _)
  · refine z_aload_n C dX2_takeWord_8 0 rfl ?_
    refine zp_get_tokenEnd C hin2 (x := v 8) k64 dX2_takeWord_9 rfl ?_
    refine z_aload_n C dX2_takeWord_12 0 rfl ?_
    refine zp_get_tokenStart C hin2 (x := v 7) k61 dX2_takeWord_13 rfl ?_
    refine zn_isub C dX2_takeWord_16 (by omega) ?_
    refine z_aload_n C dX2_takeWord_17 1 rfl ?_
    refine z_callT C (wc := []) (cX_ok adK adV) hX (mJ0_length_8abf5 l D κ adK adV i hi) gX2_takeWord_J0_length_8abf5 rfl rfl rfl hdJ0_length_8abf5 ⟨Nat.le_of_ble_eq_true rfl, Nat.le_of_ble_eq_true rfl⟩ ⟨adK, adV, i, hi, rfl, hX.2.2.2.2.1⟩ rfl (PW κ Pa Sa eo v tx ++ []) (fun _ => PW κ Pa Sa eo v tx ++ []) (List.Perm.refl _) (fun _ => List.Perm.refl _) rfl (Nat.le_of_ble_eq_true rfl) dX2_takeWord_18 ⟨Nat.zero_le _, Nat.zero_le _⟩ (fun _ _ => ?_)
    refine zn_icmp_eq C 26 dX2_takeWord_21 (by decide) (by omega) (by omega) (fun h3 => ?_) (fun h4 => ?_)
    · refine z_iconst (v := nI 0) C dX2_takeWord_26 (by decide) ?_
      refine z_istore_n C [(2, .int (nI 0)), (0, .ref (Pa 0)), (1, .ref (adK i))] dX2_takeWord_27 (by decide) rfl ?_
      refine z_lv [1, 2, 0] rfl ?_
      refine z_loop (σ := Nat) (fun k => PW κ Pa Sa eo v tx ++ []) (fun k => [(0, .ref (Pa 0)), (1, .ref (adK i)), (2, .int (nI k))]) (fun k => k ≤ sLen.getD i 0 ∧ ∀ j, j < k → tx (v 7 + j) = nI (sCh i j)) (fun k => sLen.getD i 0 - k) (0) (⟨Nat.zero_le _, fun j hj => absurd hj (Nat.not_lt_zero _)⟩) rfl rfl ?_
      rintro k hI28 ih28
      obtain ⟨hk1, hk2⟩ := hI28
      refine z_iload_n C dX2_takeWord_28 2 rfl ?_
      refine z_aload_n C dX2_takeWord_29 1 rfl ?_
      refine z_callT C (wc := []) (cX_ok adK adV) hX (mJ0_length_8abf5 l D κ adK adV i hi) gX2_takeWord_J0_length_8abf5 rfl rfl rfl hdJ0_length_8abf5 ⟨Nat.le_of_ble_eq_true rfl, Nat.le_of_ble_eq_true rfl⟩ ⟨adK, adV, i, hi, rfl, hX.2.2.2.2.1⟩ rfl (PW κ Pa Sa eo v tx ++ []) (fun _ => PW κ Pa Sa eo v tx ++ []) (List.Perm.refl _) (fun _ => List.Perm.refl _) rfl (Nat.le_of_ble_eq_true rfl) dX2_takeWord_30 ⟨Nat.zero_le _, Nat.zero_le _⟩ (fun _ _ => ?_)
      refine zn_icmp_ge C 63 dX2_takeWord_33 (by decide) (by omega) (by omega) (fun h5 => ?_) (fun h6 => ?_)
      · exact absurd (fun j hj => hk2 j (by omega)) (hno (by omega) (by omega))
      · refine z_aload_n C dX2_takeWord_36 0 rfl ?_
        refine zp_get_text C hin2 k11 dX2_takeWord_37 ?_
        refine z_aload_n C dX2_takeWord_40 0 rfl ?_
        refine zp_get_tokenStart C hin2 (x := v 7) k61 dX2_takeWord_41 rfl ?_
        refine z_iload_n C dX2_takeWord_44 2 rfl ?_
        refine zn_iadd C dX2_takeWord_45 ?_
        refine zp_ald C (by omega) dX2_takeWord_46 ?_
        refine z_aload_n C dX2_takeWord_47 1 rfl ?_
        refine z_iload_n C dX2_takeWord_48 2 rfl ?_
        refine z_callT C (wc := []) (cX_ok adK adV) hX (mJ0_charAt_5068e l D κ adK adV i hi k (by omega)) gX2_takeWord_J0_charAt_5068e rfl rfl rfl hdJ0_charAt_5068e ⟨Nat.le_of_ble_eq_true rfl, Nat.le_of_ble_eq_true rfl⟩ ⟨adK, adV, i, hi, rfl, hX.2.2.2.2.1⟩ rfl (PW κ Pa Sa eo v tx ++ []) (fun _ => PW κ Pa Sa eo v tx ++ []) (List.Perm.refl _) (fun _ => List.Perm.refl _) rfl (Nat.le_of_ble_eq_true rfl) dX2_takeWord_49 ⟨Nat.zero_le _, Nat.zero_le _⟩ (fun _ _ => ?_)
        refine z_icmp_eq C 57 dX2_takeWord_52 (by decide) (fun h7 => ?_) (fun h8 => ?_)
        · refine zn_iinc (n := 1) C [(2, .int (nI (k + 1))), (0, .ref (Pa 0)), (1, .ref (adK i))] dX2_takeWord_57 2 rfl (by decide) rfl ?_
          refine z_goto (tgt := 28) C dX2_takeWord_60 (by decide) ?_
          refine z_lv [1, 2, 0] rfl ?_
          exact ih28 (k + 1) ⟨by omega, wd_step hk2 h7⟩ (by omega)
        · refine z_iconst (v := nI 0) C dX2_takeWord_55 (by decide) ?_
          exact z_zret C hr9 hk (by decide) (()) (rfl) (trivial) (List.Perm.of_eq rfl) dX2_takeWord_56 (Nat.le_refl _) (Nat.le_refl _)
    · refine z_iconst (v := nI 0) C dX2_takeWord_24 (by decide) ?_
      exact z_zret C hr9 hk (by decide) (()) (rfl) (trivial) (List.Perm.of_eq rfl) dX2_takeWord_25 (Nat.le_refl _) (Nat.le_refl _)
end Q3
