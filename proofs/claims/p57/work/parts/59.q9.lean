section Q9
def okT (r : Ept (Nat → Nat)) : Bool := match r with
  | .inl _ => false
  | .inr _ => true
/-- behind a text -/
def TxP (n : Nat) (r : Ept (Nat → Nat)) (u : (Nat → Nat → Nat) × Int32 × (Nat → Nat)) : Prop := match r with
  | .inl e => u.2.1 = nI e.2 ∧ u.2.2 2 = e.1 ∧ u.2.2 1 = 0
  | .inr τ => Rep u.1 τ ∧ Inv (20 + 1100 * n) τ ∧ τ 0 ≤ 9999 ∧ u.2.1 = -1 ∧ u.2.2 1 = 0 ∧ u.2.2 2 = 0
theorem okT_i {r : Ept (Nat → Nat)} {e : Nat × Nat} (h : r = .inl e) : okT r = false := by rw [h]; rfl
theorem okT_r {r : Ept (Nat → Nat)} {x : Nat → Nat} (h : r = .inr x) : okT r = true := by rw [h]; rfl
theorem TxP_i {n : Nat} {r : Ept (Nat → Nat)} {c o : Nat} {u : (Nat → Nat → Nat) × Int32 × (Nat → Nat)} (h : r = .inl (c, o)) (h1 : u.2.1 = nI o ∧ u.2.2 2 = c ∧ u.2.2 1 = 0) : TxP n r u := by rw [h]; exact h1
theorem TxP_r {n : Nat} {r : Ept (Nat → Nat)} {τ : Nat → Nat} {u : (Nat → Nat → Nat) × Int32 × (Nat → Nat)} (h : r = .inr τ) (h1 : Rep u.1 τ ∧ Inv (20 + 1100 * n) τ ∧ τ 0 ≤ 9999 ∧ u.2.1 = -1 ∧ u.2.2 1 = 0 ∧ u.2.2 2 = 0) : TxP n r u := by rw [h]; exact h1
set_option maxRecDepth 100000 in
set_option maxHeartbeats 4000000 in
theorem mX2_parseText (l : Launch) (D : va_G) (κ : Nat → ClassId) (adK adV : Nat → Nat) (Pa Sa : Nat → Nat) (g : Nat → Nat → Nat) (eo : Int32) (v : Nat → Nat) (tx : Nat → Int32) (n : Nat) (hn : n ≤ v 1) (hv6 : v 1 ≤ 600) : zMc (cX adK adV) l yX2_parseText wsX2_parseText { frames := 7, cells := 0, slots := 0, locals := 151 } D (zTy κ) [.ref (Pa 0), .int (nI n)] (SW κ Sa g ++ PW κ Pa Sa eo v tx) (S := (Nat → Nat → Nat) × Int32 × (Nat → Nat)) (fun _ => some (.int (nI (okT (pText tx n)).toNat))) (TxP n (pText tx n)) (fun u => SW κ Sa u.1 ++ PW κ Pa Sa u.2.1 u.2.2 tx) 0 0 := by
  refine zMc_of (cc := cX2_parseText) (maxL := 3) (rt := (some .boolean)) [(0, .ref (Pa 0)), (1, .int (nI n))] (by decide +kernel) rfl (Nat.le_of_ble_eq_true rfl) rfl ?_
  intro p e s m args below meth c A C hr9 hk hnm hX
  have C : zC p s m args c cX2_parseText 3 wsX2_parseText RX2 D (zTy κ) A := C
  have hin2 : ∀ w ∈ wsX20, w ∈ wsX2_parseText := fun w h => List.mem_cons_of_mem _ (List.mem_append_left _ (List.mem_append_left _ (List.mem_append_right _ h)))
  have hin4 : ∀ w ∈ wsX40, w ∈ wsX2_parseText := fun w h => List.mem_cons_of_mem _ (List.mem_append_left _ (List.mem_append_right _ h))
  have k26 : Cond.fieldLink RX2 26 "PeatRailway$Parser" "filled" "I" ∈ wsX2_parseText := by decide +kernel
  have k49 : Cond.fieldLink RX2 49 "PeatRailway$Parser" "limit" "I" ∈ wsX2_parseText := by decide +kernel
  have k52 : Cond.fieldLink RX2 52 "PeatRailway$Parser" "errorKind" "I" ∈ wsX2_parseText := by decide +kernel
  have k15 : Cond.fieldLink RX2 15 "PeatRailway$Parser" "errorOffset" "I" ∈ wsX2_parseText := by decide +kernel
  have k22 : Cond.fieldLink RX2 22 "PeatRailway$Parser" "result" "LPeatRailway$State;" ∈ wsX2_parseText := by decide +kernel
  have k58 : Cond.fieldLink RX2 58 "PeatRailway$Parser" "token" "I" ∈ wsX2_parseText := by decide +kernel
  have k61 : Cond.fieldLink RX2 61 "PeatRailway$Parser" "tokenStart" "I" ∈ wsX2_parseText := by decide +kernel
  have k64 : Cond.fieldLink RX2 64 "PeatRailway$Parser" "tokenEnd" "I" ∈ wsX2_parseText := by decide +kernel
  refine z_eq (ws' := SW κ Sa g ++ (PW κ Pa Sa eo v tx ++ [])) ?_ rfl rfl rfl rfl
  have hn6 : n ≤ 600 := by omega
  refine z_aload_n C dX2_parseText_0 0 rfl ?_
  refine z_iload_n C dX2_parseText_1 1 rfl ?_
  refine z_aload_n C dX2_parseText_2 0 rfl ?_
  refine zq_get_filled C hin2 (x := v 1) k26 dX2_parseText_3 rfl ?_
  refine zn_min C (show Cond.methodLink RX2 43 Lib.Math.min.name ∈ wsX2_parseText from by decide +kernel) (by decide +kernel) (by decide +kernel) (by decide +kernel) (by omega) (by omega) ⟨Nat.le_of_ble_eq_true rfl, Nat.le_of_ble_eq_true rfl⟩ (Nat.le_of_ble_eq_true rfl) dX2_parseText_6 ⟨Nat.zero_le _, Nat.zero_le _⟩ ?_
  rw [show (if v 1 < n then v 1 else n) = n from if_neg (by omega)]
  refine zq_put_limit C hin2 k49 dX2_parseText_9 ?_
  refine z_aload_n C dX2_parseText_12 0 rfl ?_
  refine z_iconst (v := nI 0) C dX2_parseText_13 (by decide) ?_
  refine zq_put_filled C hin2 k26 dX2_parseText_14 ?_
  refine z_aload_n C dX2_parseText_17 0 rfl ?_
  refine z_iconst (v := nI 0) C dX2_parseText_18 (by decide) ?_
  refine zq_put_errorKind C hin2 k52 dX2_parseText_19 ?_
  refine z_aload_n C dX2_parseText_22 0 rfl ?_
  refine z_iconst (v := (-1)) C dX2_parseText_23 (by decide) ?_
  refine zq_put_errorOffset C hin2 k15 dX2_parseText_24 ?_
  refine z_aload_n C dX2_parseText_27 0 rfl ?_
  refine zq_get_result C hin2 k22 dX2_parseText_28 ?_
  refine zc_call C (mX4_makeEmpty l D κ Sa g) gX2_parseText_X4_makeEmpty rfl rfl rfl hdX4_makeEmpty ⟨Nat.le_of_ble_eq_true rfl, Nat.le_of_ble_eq_true rfl⟩ rfl (Nat.le_of_ble_eq_true rfl) dX2_parseText_31 ⟨Nat.zero_le _, Nat.zero_le _⟩ ?_
  refine z_aload_n C dX2_parseText_34 0 rfl ?_
  refine z_iconst (v := nI 0) C dX2_parseText_35 (by decide) ?_
  refine zq_put_token C hin2 k58 dX2_parseText_36 ?_
  refine z_aload_n C dX2_parseText_39 0 rfl ?_
  refine z_iconst (v := nI 0) C dX2_parseText_40 (by decide) ?_
  refine zq_put_tokenStart C hin2 k61 dX2_parseText_41 ?_
  refine z_aload_n C dX2_parseText_44 0 rfl ?_
  refine z_iconst (v := nI 0) C dX2_parseText_45 (by decide) ?_
  refine zq_put_tokenEnd C hin2 k64 dX2_parseText_46 ?_
  refine z_aload_n C dX2_parseText_49 0 rfl ?_
  refine zq_call C (mX2_readToken l D κ Pa Sa _ _ _ hn6 (Nat.zero_le _) (Nat.zero_le _) (Nat.zero_le _)) gX2_parseText_X2_readToken rfl rfl rfl hdX2_readToken ⟨Nat.le_of_ble_eq_true rfl, Nat.le_of_ble_eq_true rfl⟩ rfl (Nat.le_of_ble_eq_true rfl) dX2_parseText_50 ⟨Nat.zero_le _, Nat.zero_le _⟩ ?_
  refine z_cut (α := (Nat → Nat)) (fun v0 => CT tx n v0 (nxT tx n (0, 0, 0)) ∧ v0 1 = 0 ∧ v0 2 = 0) (fun v0 => SW κ Sa (emG g) ++ (PW κ Pa Sa (((-1 : Int32))) v0 tx ++ [])) (fun v0 => [(0, .ref (Pa 0))]) (fun v0 => []) 53 (fun v0 hx53 => ?_) (fun cut53 => ?_)
  · obtain ⟨ct0, hv01, hv02⟩ := hx53
    refine z_aload_n C dX2_parseText_53 0 rfl ?_
    refine zx_ldc C hX 1 (by decide) rfl rfl dX2_parseText_54 ?_
    rcases hp1 : kyM 0 tx (nxT tx n (0, 0, 0)) with _ | _
    · refine z_callVc C (cX_ok adK adV) hX (mX2_takeWord_Tn l D κ adK adV Pa Sa _ _ _ n _ 0 1 ct0 (by decide) kwP_0 hp1) gX2_parseText_X2_takeWord rfl rfl rfl hdX2_takeWord ⟨Nat.le_of_ble_eq_true rfl, Nat.le_of_ble_eq_true rfl⟩ 0 rfl rfl (SW κ Sa (emG g) ++ []) (fun _ => SW κ Sa (emG g) ++ (PW κ Pa Sa (((-1 : Int32))) v0 tx ++ [])) zp_mid (fun _ => zp_mid) rfl (Nat.le_of_ble_eq_true rfl) dX2_parseText_56 ⟨Nat.zero_le _, Nat.zero_le _⟩ (fun _ _ => ?_)
      refine z_if_ne C 72 dX2_parseText_59 (by decide) (fun q => absurd (by decide) q) (fun _ => ?_)
      refine z_aload_n C dX2_parseText_62 0 rfl ?_
      refine z_iconst (v := nI 1) C dX2_parseText_63 (by decide) ?_
      refine z_aload_n C dX2_parseText_64 0 rfl ?_
      refine zq_get_tokenStart C hin2 (x := v0 7) k61 dX2_parseText_65 rfl ?_
      refine zq_call C (mX2_fail l D κ Pa Sa _ _ _ 1 (v0 7) ) gX2_parseText_X2_fail rfl rfl rfl hdX2_fail ⟨Nat.le_of_ble_eq_true rfl, Nat.le_of_ble_eq_true rfl⟩ rfl (Nat.le_of_ble_eq_true rfl) dX2_parseText_68 ⟨Nat.zero_le _, Nat.zero_le _⟩ ?_
      have hres : pText tx n = .inl (1, (nxT tx n (0, 0, 0)).2.1) := by simp only [pText]; rw [if_neg (by rw [hp1]; decide)]
      exact z_zret C hr9 hk (zb_nar (false)) ((emG g, nI (v0 7), upN v0 2 1)) (congrArg (fun b : Bool => some (Value.int (nI b.toNat))) (okT_i hres)) (TxP_i hres ⟨congrArg nI ct0.2.2.1, rfl, hv01⟩) (List.Perm.of_eq rfl) dX2_parseText_71 (Nat.le_refl _) (Nat.le_refl _)
    · refine z_callVc C (cX_ok adK adV) hX (mX2_takeWord_Ty l D κ adK adV Pa Sa _ _ _ n _ 0 1 ct0 (by decide) kwP_0 hp1) gX2_parseText_X2_takeWord rfl rfl rfl hdX2_takeWord ⟨Nat.le_of_ble_eq_true rfl, Nat.le_of_ble_eq_true rfl⟩ 0 rfl rfl (SW κ Sa (emG g) ++ []) (fun _ => SW κ Sa (emG g) ++ (PW κ Pa Sa (((-1 : Int32))) (rdV tx v0) tx ++ [])) zp_mid (fun _ => zp_mid) rfl (Nat.le_of_ble_eq_true rfl) dX2_parseText_56 ⟨Nat.zero_le _, Nat.zero_le _⟩ (fun _ _ => ?_)
      obtain ⟨ct1, hn91, hv11, hv21⟩ := CT_rd ct0 (CT_e1 ct0 hp1)
      refine z_if_ne C 72 dX2_parseText_59 (by decide) (fun _ => ?_) (fun q => absurd q (by decide))
      have hne1 : 0 < (nxT tx n (0, 0, 0)).2.2 := by
        have h8 := tkT_gt (ip := tx) (n := n) (p := 0) (k := 0) (Nat.zero_le _) (by rw [show tkK tx n 0 0 = 1 from kyM_1 hp1]; decide)
        exact Nat.lt_of_le_of_lt (Nat.zero_le _) h8
      have hne2 := (nxT_t (ip := tx) (T := nxT tx n (0, 0, 0)) ct0.2.2.2.2.2.1).1
      have htl := ct1.2.2.2.2.2.1
      refine z_iconst (v := nI 0) C dX2_parseText_72 (by decide) ?_
      refine z_istore_n C [(2, .int (nI 0)), (0, .ref (Pa 0))] dX2_parseText_73 (by decide) rfl ?_
      refine z_lv [1, 0] rfl ?_
      refine z_loop (σ := Nat × (Nat → Nat → Nat) × (Nat → Nat) × Tok × Nat × (Nat → Nat)) (fun x => SW κ Sa x.2.1 ++ (PW κ Pa Sa (((-1 : Int32))) x.2.2.2.2.2 tx ++ [])) (fun x => [(0, .ref (Pa 0)), (2, .int (nI x.1))]) (fun x => CT tx n x.2.2.2.2.2 x.2.2.2.1 ∧ pLoop tx n x.2.2.2.2.1 x.2.2.1 x.2.2.2.1 = pText tx n ∧ n < x.2.2.2.2.1 + x.2.2.2.1.2.2 ∧ Inv (20 + 1100 * x.2.2.2.1.2.2) x.2.2.1 ∧ x.2.2.1 0 ≤ 9999 ∧ Rep x.2.1 x.2.2.1 ∧ x.2.2.2.2.2 1 = 0 ∧ x.2.2.2.2.2 2 = 0 ∧ x.1 + 1 ≤ x.2.2.2.1.2.2) (fun x => 600 - x.1) ((0, emG g, (fun _ => 0), nxT tx n (nxT tx n (0, 0, 0)), n + 1, rdV tx v0)) (⟨ct1, by simp only [pText]; rw [if_pos hp1], by dsimp only; omega, Inv_em.mono (by dsimp only; omega) (by dsimp only; omega), Nat.zero_le _, Rep_em, hv01, hv02, by dsimp only; omega⟩) rfl rfl ?_
      rintro ⟨j, g1, m9, T, F, u⟩ hI74 ih74
      dsimp only at hI74 ih74 ⊢
      obtain ⟨hT, hR, hF, hiv, h99, hrp, hu1, hu2, hj⟩ := hI74
      obtain ⟨c5, c6, c7, c8, c9, c10, c11, c12, -, -⟩ := id hT
      obtain ⟨F1, rfl⟩ : ∃ F1, F = F1 + 1 := ⟨F - 1, by omega⟩
      refine z_iload_n C dX2_parseText_74 1 rfl ?_
      refine z_sipush (v := nI 600) C dX2_parseText_75 (by decide) ?_
      refine zn_icmp_ge C 108 dX2_parseText_78 (by decide) (by omega) (by omega) (fun h1 => ?_) (fun h2 => ?_)
      · exfalso; omega
      · refine z_aload_n C dX2_parseText_81 0 rfl ?_
        refine zq_get_token C hin2 (x := u 6) k58 dX2_parseText_82 rfl ?_
        refine z_iconst (v := nI 3) C dX2_parseText_85 (by decide) ?_
        refine zn_icmp_ne C 108 dX2_parseText_86 (by decide) (by omega) (by omega) (fun h3 => ?_) (fun h4 => ?_)
        · refine z_aload_n C dX2_parseText_108 0 rfl ?_
          refine zq_get_token C hin2 (x := u 6) k58 dX2_parseText_109 rfl ?_
          refine zn_if_eq C 127 dX2_parseText_112 (by decide) (by omega) (fun h5 => ?_) (fun h6 => ?_)
          · refine z_iconst (v := nI 1) C dX2_parseText_127 (by decide) ?_
            refine z_goto (tgt := 132) C dX2_parseText_128 (by decide) ?_
            have hres : pText tx n = .inr m9 := by rw [← hR]; simp only [pLoop]; rw [if_pos (by omega)]
            exact z_zret C hr9 hk (by decide) ((g1, ((-1 : Int32)), u)) (congrArg (fun b : Bool => some (Value.int (nI b.toNat))) (okT_r hres)) (TxP_r hres ⟨hrp, hiv.mono (by omega) (by omega), h99, rfl, hu1, hu2⟩) (List.Perm.of_eq rfl) dX2_parseText_132 (Nat.le_refl _) (Nat.le_refl _)
          · refine z_aload_n C dX2_parseText_115 0 rfl ?_
            refine z_iconst (v := nI 1) C dX2_parseText_116 (by decide) ?_
            refine z_aload_n C dX2_parseText_117 0 rfl ?_
            refine zq_get_tokenStart C hin2 (x := u 7) k61 dX2_parseText_118 rfl ?_
            refine zq_call C (mX2_fail l D κ Pa Sa _ _ _ 1 (u 7) ) gX2_parseText_X2_fail rfl rfl rfl hdX2_fail ⟨Nat.le_of_ble_eq_true rfl, Nat.le_of_ble_eq_true rfl⟩ rfl (Nat.le_of_ble_eq_true rfl) dX2_parseText_121 ⟨Nat.zero_le _, Nat.zero_le _⟩ ?_
            refine z_if_eq C 131 dX2_parseText_124 (by decide) (fun _ => ?_) (fun q => absurd (by decide) q)
            refine z_iconst (v := nI 0) C dX2_parseText_131 (by decide) ?_
            have hres : pText tx n = .inl (1, T.2.1) := by rw [← hR]; simp only [pLoop]; rw [if_neg (by omega), if_neg (by omega)]
            exact z_zret C hr9 hk (by decide) ((g1, nI (u 7), upN u 2 1)) (congrArg (fun b : Bool => some (Value.int (nI b.toNat))) (okT_i hres)) (TxP_i hres ⟨congrArg nI c7, rfl, hu1⟩) (List.Perm.of_eq rfl) dX2_parseText_132 (Nat.le_refl _) (Nat.le_refl _)
        · refine z_aload_n C dX2_parseText_89 0 rfl ?_
          refine zq_call C (mX2_readToken l D κ Pa Sa _ _ _ (by omega) (by omega) (by omega) (by omega)) gX2_parseText_X2_readToken rfl rfl rfl hdX2_readToken ⟨Nat.le_of_ble_eq_true rfl, Nat.le_of_ble_eq_true rfl⟩ rfl (Nat.le_of_ble_eq_true rfl) dX2_parseText_90 ⟨Nat.zero_le _, Nat.zero_le _⟩ ?_
          obtain ⟨ctr, -, hr1, hr2⟩ := CT_rd hT (by omega)
          refine z_aload_n C dX2_parseText_93 0 rfl ?_
          rcases hpl : pLine tx n m9 (nxT tx n T) with ⟨c9, o9⟩ | r9
          · refine z_callVc C (cX_ok adK adV) hX (mX2_parseLine l D κ adK adV Pa Sa _ _ _ _ m9 (20 + 1100 * T.2.2) n (nxT tx n T) hrp hiv ctr (by omega) h99) gX2_parseText_X2_parseLine rfl rfl rfl hdX2_parseLine ⟨Nat.le_of_ble_eq_true rfl, Nat.le_of_ble_eq_true rfl⟩ 13 rfl rfl [] (fun w => SW κ Sa w.1 ++ (PW κ Pa Sa w.2.1 w.2.2 tx ++ [])) (List.Perm.of_eq rfl) (fun _ => List.Perm.of_eq rfl) rfl (Nat.le_of_ble_eq_true rfl) dX2_parseText_94 ⟨Nat.zero_le _, Nat.zero_le _⟩ (fun w hw => ?_)
            rw [hpl] at hw
            rw [show okB (pLine tx n m9 (nxT tx n T)) = false from okB_i hpl]
            refine z_if_ne C 102 dX2_parseText_97 (by decide) (fun q => absurd (by decide) q) (fun _ => ?_)
            refine z_iconst (v := nI 0) C dX2_parseText_100 (by decide) ?_
            have hres : pText tx n = .inl (c9, o9) := by rw [← hR]; simp only [pLoop]; rw [if_neg (by omega), if_pos (by omega), hpl, bdS_l]
            exact z_zret C hr9 hk (by decide) (w) (congrArg (fun b : Bool => some (Value.int (nI b.toNat))) (okT_i hres)) (TxP_i hres ⟨hw.1, hw.2.1, hw.2.2.trans hu1⟩) (List.Perm.of_eq rfl) dX2_parseText_101 (Nat.le_refl _) (Nat.le_refl _)
          · refine z_callVc C (cX_ok adK adV) hX (mX2_parseLine l D κ adK adV Pa Sa _ _ _ _ m9 (20 + 1100 * T.2.2) n (nxT tx n T) hrp hiv ctr (by omega) h99) gX2_parseText_X2_parseLine rfl rfl rfl hdX2_parseLine ⟨Nat.le_of_ble_eq_true rfl, Nat.le_of_ble_eq_true rfl⟩ 13 rfl rfl [] (fun w => SW κ Sa w.1 ++ (PW κ Pa Sa w.2.1 w.2.2 tx ++ [])) (List.Perm.of_eq rfl) (fun _ => List.Perm.of_eq rfl) rfl (Nat.le_of_ble_eq_true rfl) dX2_parseText_94 ⟨Nat.zero_le _, Nat.zero_le _⟩ (fun w hw => ?_)
            rw [hpl] at hw
            rw [show okB (pLine tx n m9 (nxT tx n T)) = true from okB_r hpl]
            obtain ⟨w1, w2, w3⟩ := w
            dsimp only at hw ⊢
            obtain ⟨hw1, hw2, hw3, hw4, hw5⟩ := hw
            dsimp only at hw1 hw2 hw3 hw4 hw5
            subst hw3
            have hgo := pLine_go hiv.1 (by omega) h99 c10 hpl
            have hgi := pLine_inv hiv (by omega) h99 hpl
            refine z_if_ne C 102 dX2_parseText_97 (by decide) (fun _ => ?_) (fun q => absurd q (by decide))
            refine zn_iinc (n := 1) C [(2, .int (nI (j + 1))), (0, .ref (Pa 0))] dX2_parseText_102 1 rfl (by decide) rfl ?_
            refine z_goto (tgt := 74) C dX2_parseText_105 (by decide) ?_
            refine z_lv [1, 0] rfl ?_
            exact ih74 (j + 1, w1, r9.1, r9.2, F1, w3) ⟨hw2, by dsimp only; rw [← hR]; simp only [pLoop]; rw [if_neg (by omega), if_pos (by omega), hpl, bdS_r], by dsimp only; omega, ⟨hgo.2.2.1.mono (by dsimp only; omega) (by dsimp only; omega), hgi⟩, hgo.2.2.2, hw1, hw4.trans hu1, hw5.trans hu2, by dsimp only; omega⟩ (by dsimp only; omega)
  refine z_lv [0] rfl ?_
  exact cut53 (rdV tx (upN (upN (upN (upN (upN (upN v 5 n) 1 0) 2 0) 6 0) 7 0) 8 0)) ⟨(CT_rd (show CT tx n (upN (upN (upN (upN (upN (upN v 5 n) 1 0) 2 0) 6 0) 7 0) 8 0) (0, 0, 0) from ⟨rfl, hn6, rfl, rfl, Nat.le_refl _, Nat.zero_le _, Nat.zero_le _, Or.inl rfl, fun q => absurd q (by decide), fun q => absurd q (by decide)⟩) rfl).1, rfl, rfl⟩
theorem hdX2_parseText : yX2_parseText.cls = RX2 ∧ yX2_parseText.cls ≠ "java/lang/invoke/MethodHandle" ∧ yX2_parseText.cls ≠ "java/lang/invoke/VarHandle" ∧ (parseMethodDescriptor yX2_parseText.desc).map (fun d => d.parameters.length) = some 1 := by decide +kernel
end Q9
