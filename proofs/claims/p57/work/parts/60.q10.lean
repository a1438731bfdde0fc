section Q10
theorem upN_2 {f : Nat → Nat} {k x y : Nat} : upN (upN f k x) k y = upN f k y := by
  funext j
  rw [upN_if, upN_if, upN_if]
  split <;> rfl
theorem upN_id {f : Nat → Nat} {k x : Nat} (h : f k = x) : upN f k x = f := by
  funext j
  rw [upN_if]
  split
  · rename_i e
    rw [e, h]
  · rfl
set_option maxRecDepth 100000 in
set_option maxHeartbeats 4000000 in
theorem mX2_putInt (l : Launch) (D : va_G) (κ : Nat → ClassId) (Pa Sa : Nat → Nat) (eo : Int32) (v : Nat → Nat) (tx : Nat → Int32) (x : Int32) (h1 : v 1 ≤ 596) : pM l yX2_putInt wsX2_putInt { frames := 1, cells := 0, slots := 0, locals := 21 } D κ Pa Sa [.int (x)] eo v tx none eo (upN v 1 (v 1 + 4)) (fdF tx (v 1) x) := by
  refine zM_of (cc := cX2_putInt) (maxL := 2) (rt := none) [(0, .ref (Pa 0)), (1, .int (x))] (by decide +kernel) rfl (Nat.le_of_ble_eq_true rfl) rfl ?_
  intro p e s m args below meth c A C hr9 hk hnm
  have C : zC p s m args c cX2_putInt 2 wsX2_putInt RX2 D (zTy κ) A := C
  refine z_eq (ws' := PW κ Pa Sa eo v tx ++ []) ?_ rfl rfl rfl rfl
  refine z_aload_n C dX2_putInt_0 0 rfl ?_
  refine z_iload_n C dX2_putInt_1 1 rfl ?_
  refine z_bipush (v := nI 24) C dX2_putInt_2 (by decide) ?_
  refine z_ishr C dX2_putInt_4 ?_
  refine zp_call C (mX2_put l D κ Pa Sa _ _ _ (((x) >>> (nI 24 &&& 31))) (show v 1 < 600 from by omega)) gX2_putInt_X2_put rfl rfl rfl hdX2_put ⟨Nat.le_of_ble_eq_true rfl, Nat.le_of_ble_eq_true rfl⟩ rfl (Nat.le_of_ble_eq_true rfl) dX2_putInt_5 ⟨Nat.zero_le _, Nat.zero_le _⟩ ?_
  refine z_aload_n C dX2_putInt_8 0 rfl ?_
  refine z_iload_n C dX2_putInt_9 1 rfl ?_
  refine z_bipush (v := nI 16) C dX2_putInt_10 (by decide) ?_
  refine z_ishr C dX2_putInt_12 ?_
  refine zp_call C (mX2_put l D κ Pa Sa _ _ _ (((x) >>> (nI 16 &&& 31))) (show v 1 + 1 < 600 from by omega)) gX2_putInt_X2_put rfl rfl rfl hdX2_put ⟨Nat.le_of_ble_eq_true rfl, Nat.le_of_ble_eq_true rfl⟩ rfl (Nat.le_of_ble_eq_true rfl) dX2_putInt_13 ⟨Nat.zero_le _, Nat.zero_le _⟩ ?_
  refine z_aload_n C dX2_putInt_16 0 rfl ?_
  refine z_iload_n C dX2_putInt_17 1 rfl ?_
  refine z_bipush (v := nI 8) C dX2_putInt_18 (by decide) ?_
  refine z_ishr C dX2_putInt_20 ?_
  refine zp_call C (mX2_put l D κ Pa Sa _ _ _ (((x) >>> (nI 8 &&& 31))) (show v 1 + 1 + 1 < 600 from by omega)) gX2_putInt_X2_put rfl rfl rfl hdX2_put ⟨Nat.le_of_ble_eq_true rfl, Nat.le_of_ble_eq_true rfl⟩ rfl (Nat.le_of_ble_eq_true rfl) dX2_putInt_21 ⟨Nat.zero_le _, Nat.zero_le _⟩ ?_
  refine z_aload_n C dX2_putInt_24 0 rfl ?_
  refine z_iload_n C dX2_putInt_25 1 rfl ?_
  refine zp_call C (mX2_put l D κ Pa Sa _ _ _ (x) (show v 1 + 1 + 1 + 1 < 600 from by omega)) gX2_putInt_X2_put rfl rfl rfl hdX2_put ⟨Nat.le_of_ble_eq_true rfl, Nat.le_of_ble_eq_true rfl⟩ rfl (Nat.le_of_ble_eq_true rfl) dX2_putInt_26 ⟨Nat.zero_le _, Nat.zero_le _⟩ ?_
  exact z_vret C hr9 hk (()) (rfl) (trivial) (List.Perm.of_eq (by rw [upN_2, upN_2, upN_2]; rfl)) dX2_putInt_29 (Nat.le_refl _) (Nat.le_refl _)
theorem hdX2_putInt : yX2_putInt.cls = RX2 ∧ yX2_putInt.cls ≠ "java/lang/invoke/MethodHandle" ∧ yX2_putInt.cls ≠ "java/lang/invoke/VarHandle" ∧ (parseMethodDescriptor yX2_putInt.desc).map (fun d => d.parameters.length) = some 1 := by decide +kernel
theorem pt_step {t : Nat → Int32} {f b j : Nat} {g : Nat → Nat} (hb : b = f + j) (h : ∀ k, k < j → t (f + k) = nI (g k)) (h1 : g j < 128) : ∀ k, k < j + 1 → upd t b (nI (g j)).toInt8.toInt32 (f + k) = nI (g k) := by
  intro k hk
  show (if f + k = b then _ else _) = _
  split
  · have : k = j := by omega
    subst this
    exact ni_i2b h1
  · exact h k (by omega)
set_option maxRecDepth 100000 in
set_option maxHeartbeats 4000000 in
theorem mX2_putText (l : Launch) (D : va_G) (κ : Nat → ClassId) (adK adV : Nat → Nat) (Pa Sa : Nat → Nat) (eo : Int32) (v : Nat → Nat) (tx : Nat → Int32) (i : Nat) (hi : i < 28) (h1 : v 1 + sLen.getD i 0 ≤ 600) : zMc (cX adK adV) l yX2_putText wsX2_putText { frames := 4, cells := 0, slots := 0, locals := 85 } D (zTy κ) [.ref (Pa 0), .ref (adK i)] (PW κ Pa Sa eo v tx) (S := (Nat → Nat) × (Nat → Int32)) (fun _ => none) (fun u => u.1 1 = v 1 + sLen.getD i 0 ∧ ∀ k, k < sLen.getD i 0 → u.2 (v 1 + k) = nI (sCh i k)) (fun u => PW κ Pa Sa eo u.1 u.2) 0 0 := by
  refine zMc_of (cc := cX2_putText) (maxL := 3) (rt := none) [(0, .ref (Pa 0)), (1, .ref (adK i))] (by decide +kernel) rfl (Nat.le_of_ble_eq_true rfl) rfl ?_
  intro p e s m args below meth c A C hr9 hk hnm hX
  have C : zC p s m args c cX2_putText 3 wsX2_putText RX2 D (zTy κ) A := C
  refine z_eq (ws' := PW κ Pa Sa eo v tx ++ []) ?_ rfl rfl rfl rfl
  have hs9 := sc_all i hi
  refine z_iconst (v := nI 0) C dX2_putText_0 (by decide) ?_
  refine z_istore_n C [(2, .int (nI 0)), (0, .ref (Pa 0)), (1, .ref (adK i))] dX2_putText_1 (by decide) rfl ?_
  refine z_lv [1, 2, 0] rfl ?_
  refine z_loop (σ := Nat × (Nat → Nat) × (Nat → Int32)) (fun x => PW κ Pa Sa eo x.2.1 x.2.2 ++ []) (fun x => [(0, .ref (Pa 0)), (1, .ref (adK i)), (2, .int (nI x.1))]) (fun x => x.2.1 1 = v 1 + x.1 ∧ x.1 ≤ sLen.getD i 0 ∧ ∀ k, k < x.1 → x.2.2 (v 1 + k) = nI (sCh i k)) (fun x => sLen.getD i 0 - x.1) ((0, v, tx)) (⟨rfl, Nat.zero_le _, fun k hk => absurd hk (Nat.not_lt_zero _)⟩) rfl rfl ?_
  rintro ⟨j, u, t⟩ hI2 ih2
  dsimp only at hI2 ih2 ⊢
  obtain ⟨hu1, hu2, hu3⟩ := hI2
  refine z_iload_n C dX2_putText_2 2 rfl ?_
  refine z_aload_n C dX2_putText_3 1 rfl ?_
  refine z_callT C (wc := []) (cX_ok adK adV) hX (mJ0_length_8abf5 l D κ adK adV i hi) gX2_putText_J0_length_8abf5 rfl rfl rfl hdJ0_length_8abf5 ⟨Nat.le_of_ble_eq_true rfl, Nat.le_of_ble_eq_true rfl⟩ ⟨adK, adV, i, hi, rfl, hX.2.2.2.2.1⟩ rfl (PW κ Pa Sa eo u t ++ []) (fun _ => PW κ Pa Sa eo u t ++ []) (List.Perm.refl _) (fun _ => List.Perm.refl _) rfl (Nat.le_of_ble_eq_true rfl) dX2_putText_4 ⟨Nat.zero_le _, Nat.zero_le _⟩ (fun _ _ => ?_)
  refine zn_icmp_ge C 25 dX2_putText_7 (by decide) (by omega) (by omega) (fun h1 => ?_) (fun h2 => ?_)
  · exact z_vret C hr9 hk ((u, t)) (rfl) (⟨by dsimp only; omega, fun k hk => hu3 k (by omega)⟩) (List.Perm.of_eq rfl) dX2_putText_25 (Nat.le_refl _) (Nat.le_refl _)
  · refine z_aload_n C dX2_putText_10 0 rfl ?_
    refine z_aload_n C dX2_putText_11 1 rfl ?_
    refine z_iload_n C dX2_putText_12 2 rfl ?_
    refine z_callT C (wc := []) (cX_ok adK adV) hX (mJ0_charAt_5068e l D κ adK adV i hi j (by omega)) gX2_putText_J0_charAt_5068e rfl rfl rfl hdJ0_charAt_5068e ⟨Nat.le_of_ble_eq_true rfl, Nat.le_of_ble_eq_true rfl⟩ ⟨adK, adV, i, hi, rfl, hX.2.2.2.2.1⟩ rfl (PW κ Pa Sa eo u t ++ []) (fun _ => PW κ Pa Sa eo u t ++ []) (List.Perm.refl _) (fun _ => List.Perm.refl _) rfl (Nat.le_of_ble_eq_true rfl) dX2_putText_13 ⟨Nat.zero_le _, Nat.zero_le _⟩ (fun _ _ => ?_)
    refine zp_call C (mX2_put l D κ Pa Sa _ _ _ (nI (sCh i j)) (show u 1 < 600 from by omega)) gX2_putText_X2_put rfl rfl rfl hdX2_put ⟨Nat.le_of_ble_eq_true rfl, Nat.le_of_ble_eq_true rfl⟩ rfl (Nat.le_of_ble_eq_true rfl) dX2_putText_16 ⟨Nat.zero_le _, Nat.zero_le _⟩ ?_
    refine zn_iinc (n := 1) C [(2, .int (nI (j + 1))), (0, .ref (Pa 0)), (1, .ref (adK i))] dX2_putText_19 2 rfl (by decide) rfl ?_
    refine z_goto (tgt := 2) C dX2_putText_22 (by decide) ?_
    refine z_lv [1, 2, 0] rfl ?_
    exact ih2 (j + 1, upN u 1 (u 1 + 1), upd t (u 1) (nI (sCh i j)).toInt8.toInt32) ⟨by dsimp only; rw [upN_s]; omega, by dsimp only; omega, pt_step hu1 hu3 (hs9.2.2 j (by omega)).2⟩ (by dsimp only; omega)
theorem hdX2_putText : yX2_putText.cls = RX2 ∧ yX2_putText.cls ≠ "java/lang/invoke/MethodHandle" ∧ yX2_putText.cls ≠ "java/lang/invoke/VarHandle" ∧ (parseMethodDescriptor yX2_putText.desc).map (fun d => d.parameters.length) = some 1 := by decide +kernel
end Q10
