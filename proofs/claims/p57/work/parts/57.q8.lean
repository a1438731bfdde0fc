section Q8
theorem kyM_ne {tx : Nat → Int32} {n ki kj i j : Nat} {v : Nat → Nat} {T : Tok} (h : CT tx n v T) (hi : kwP ki i) (hj : kwP kj j) (hl : sLen.getD i 0 ≠ sLen.getD j 0) (hp : kyM ki tx T = true) : ¬ kyM kj tx T = true := fun q =>
  hl ((kw_yes hi h.2.2.2.2.2.2.2.2.2 hp).2.1.symm.trans (kw_yes hj h.2.2.2.2.2.2.2.2.2 q).2.1)
set_option maxRecDepth 100000 in
set_option maxHeartbeats 4000000 in
theorem mX2_parseLine (l : Launch) (D : va_G) (κ : Nat → ClassId) (adK adV : Nat → Nat) (Pa Sa : Nat → Nat) (g : Nat → Nat → Nat) (eo : Int32) (v : Nat → Nat) (tx : Nat → Int32) (σ : Nat → Nat) (M : Nat) (n : Nat) (T : Tok) (hr : Rep g σ) (hv : Inv M σ) (ct : CT tx n v T) (hM : M + 1100 < 1073741824) (h0 : σ 0 ≤ 9999) : qMc adK adV l yX2_parseLine wsX2_parseLine { frames := 6, cells := 0, slots := 0, locals := 130 } D κ Pa Sa [] g eo v tx (okB (pLine tx n σ T)) (LnP tx n eo v (pLine tx n σ T)) := by
  refine zMc_of (cc := cX2_parseLine) (maxL := 2) (rt := (some .boolean)) [(0, .ref (Pa 0))] (by decide +kernel) rfl (Nat.le_of_ble_eq_true rfl) rfl ?_
  intro p e s m args below meth c A C hr9 hk hnm hX
  have C : zC p s m args c cX2_parseLine 2 wsX2_parseLine RX2 D (zTy κ) A := C
  have hin2 : ∀ w ∈ wsX20, w ∈ wsX2_parseLine := fun w h => List.mem_cons_of_mem _ (List.mem_append_left _ (List.mem_append_left _ (List.mem_append_right _ h)))
  have hin4 : ∀ w ∈ wsX40, w ∈ wsX2_parseLine := fun w h => List.mem_cons_of_mem _ (List.mem_append_left _ (List.mem_append_right _ h))
  have k22 : Cond.fieldLink RX2 22 "PeatRailway$Parser" "result" "LPeatRailway$State;" ∈ wsX2_parseLine := by decide +kernel
  have k96 : Cond.fieldLink RX2 96 "PeatRailway$State" "tick" "I" ∈ wsX2_parseLine := by decide +kernel
  have k108 : Cond.fieldLink RX2 108 "PeatRailway$State" "blockCount" "I" ∈ wsX2_parseLine := by decide +kernel
  have k61 : Cond.fieldLink RX2 61 "PeatRailway$Parser" "tokenStart" "I" ∈ wsX2_parseLine := by decide +kernel
  refine z_eq (ws' := SW κ Sa g ++ (PW κ Pa Sa eo v tx ++ [])) ?_ rfl rfl rfl rfl
  have hn1 := hv.n1
  have hn2 := hv.n2
  refine z_aload_n C dX2_parseLine_0 0 rfl ?_
  refine zx_ldc C hX 2 (by decide) rfl rfl dX2_parseLine_1 ?_
  rcases hp1 : kyM 1 tx T with _ | _
  · refine z_callVc C (cX_ok adK adV) hX (mX2_takeWord_Tn l D κ adK adV Pa Sa _ _ _ n _ 1 2 ct (by decide) kwP_1 hp1) gX2_parseLine_X2_takeWord rfl rfl rfl hdX2_takeWord ⟨Nat.le_of_ble_eq_true rfl, Nat.le_of_ble_eq_true rfl⟩ 0 rfl rfl (SW κ Sa g ++ []) (fun _ => SW κ Sa g ++ (PW κ Pa Sa eo v tx ++ [])) zp_mid (fun _ => zp_mid) rfl (Nat.le_of_ble_eq_true rfl) dX2_parseLine_3 ⟨Nat.zero_le _, Nat.zero_le _⟩ (fun _ _ => ?_)
    refine z_if_eq C 14 dX2_parseLine_6 (by decide) (fun _ => ?_) (fun q => absurd (by decide) q)
    refine z_aload_n C dX2_parseLine_14 0 rfl ?_
    refine zx_ldc C hX 4 (by decide) rfl rfl dX2_parseLine_15 ?_
    rcases hp2 : kyM 3 tx T with _ | _
    · refine z_callVc C (cX_ok adK adV) hX (mX2_takeWord_Tn l D κ adK adV Pa Sa _ _ _ n _ 3 4 ct (by decide) kwP_3 hp2) gX2_parseLine_X2_takeWord rfl rfl rfl hdX2_takeWord ⟨Nat.le_of_ble_eq_true rfl, Nat.le_of_ble_eq_true rfl⟩ 0 rfl rfl (SW κ Sa g ++ []) (fun _ => SW κ Sa g ++ (PW κ Pa Sa eo v tx ++ [])) zp_mid (fun _ => zp_mid) rfl (Nat.le_of_ble_eq_true rfl) dX2_parseLine_17 ⟨Nat.zero_le _, Nat.zero_le _⟩ (fun _ _ => ?_)
      refine z_if_eq C 28 dX2_parseLine_20 (by decide) (fun _ => ?_) (fun q => absurd (by decide) q)
      refine z_aload_n C dX2_parseLine_28 0 rfl ?_
      refine zx_ldc C hX 5 (by decide) rfl rfl dX2_parseLine_29 ?_
      rcases hp3 : kyM 7 tx T with _ | _
      · refine z_callVc C (cX_ok adK adV) hX (mX2_takeWord_Tn l D κ adK adV Pa Sa _ _ _ n _ 7 5 ct (by decide) kwP_7 hp3) gX2_parseLine_X2_takeWord rfl rfl rfl hdX2_takeWord ⟨Nat.le_of_ble_eq_true rfl, Nat.le_of_ble_eq_true rfl⟩ 0 rfl rfl (SW κ Sa g ++ []) (fun _ => SW κ Sa g ++ (PW κ Pa Sa eo v tx ++ [])) zp_mid (fun _ => zp_mid) rfl (Nat.le_of_ble_eq_true rfl) dX2_parseLine_31 ⟨Nat.zero_le _, Nat.zero_le _⟩ (fun _ _ => ?_)
        refine z_if_eq C 77 dX2_parseLine_34 (by decide) (fun _ => ?_) (fun q => absurd (by decide) q)
        refine z_aload_n C dX2_parseLine_77 0 rfl ?_
        refine zx_ldc C hX 6 (by decide) rfl rfl dX2_parseLine_78 ?_
        rcases hp4 : kyM 4 tx T with _ | _
        · refine z_callVc C (cX_ok adK adV) hX (mX2_takeWord_Tn l D κ adK adV Pa Sa _ _ _ n _ 4 6 ct (by decide) kwP_4 hp4) gX2_parseLine_X2_takeWord rfl rfl rfl hdX2_takeWord ⟨Nat.le_of_ble_eq_true rfl, Nat.le_of_ble_eq_true rfl⟩ 0 rfl rfl (SW κ Sa g ++ []) (fun _ => SW κ Sa g ++ (PW κ Pa Sa eo v tx ++ [])) zp_mid (fun _ => zp_mid) rfl (Nat.le_of_ble_eq_true rfl) dX2_parseLine_80 ⟨Nat.zero_le _, Nat.zero_le _⟩ (fun _ _ => ?_)
          refine z_if_eq C 120 dX2_parseLine_83 (by decide) (fun _ => ?_) (fun q => absurd (by decide) q)
          refine z_aload_n C dX2_parseLine_120 0 rfl ?_
          refine zx_ldc C hX 7 (by decide) rfl rfl dX2_parseLine_121 ?_
          rcases hp5 : kyM 5 tx T with _ | _
          · refine z_callVc C (cX_ok adK adV) hX (mX2_takeWord_Tn l D κ adK adV Pa Sa _ _ _ n _ 5 7 ct (by decide) kwP_5 hp5) gX2_parseLine_X2_takeWord rfl rfl rfl hdX2_takeWord ⟨Nat.le_of_ble_eq_true rfl, Nat.le_of_ble_eq_true rfl⟩ 0 rfl rfl (SW κ Sa g ++ []) (fun _ => SW κ Sa g ++ (PW κ Pa Sa eo v tx ++ [])) zp_mid (fun _ => zp_mid) rfl (Nat.le_of_ble_eq_true rfl) dX2_parseLine_123 ⟨Nat.zero_le _, Nat.zero_le _⟩ (fun _ _ => ?_)
            refine z_if_eq C 163 dX2_parseLine_126 (by decide) (fun _ => ?_) (fun q => absurd (by decide) q)
            refine z_aload_n C dX2_parseLine_163 0 rfl ?_
            refine zx_ldc C hX 8 (by decide) rfl rfl dX2_parseLine_164 ?_
            rcases hp6 : kyM 6 tx T with _ | _
            · refine z_callVc C (cX_ok adK adV) hX (mX2_takeWord_Tn l D κ adK adV Pa Sa _ _ _ n _ 6 8 ct (by decide) kwP_6 hp6) gX2_parseLine_X2_takeWord rfl rfl rfl hdX2_takeWord ⟨Nat.le_of_ble_eq_true rfl, Nat.le_of_ble_eq_true rfl⟩ 0 rfl rfl (SW κ Sa g ++ []) (fun _ => SW κ Sa g ++ (PW κ Pa Sa eo v tx ++ [])) zp_mid (fun _ => zp_mid) rfl (Nat.le_of_ble_eq_true rfl) dX2_parseLine_166 ⟨Nat.zero_le _, Nat.zero_le _⟩ (fun _ _ => ?_)
              refine z_if_eq C 206 dX2_parseLine_169 (by decide) (fun _ => ?_) (fun q => absurd (by decide) q)
              refine z_aload_n C dX2_parseLine_206 0 rfl ?_
              refine z_iconst (v := nI 1) C dX2_parseLine_207 (by decide) ?_
              refine z_aload_n C dX2_parseLine_208 0 rfl ?_
              refine zq_get_tokenStart C hin2 (x := v 7) k61 dX2_parseLine_209 rfl ?_
              refine zq_call C (mX2_fail l D κ Pa Sa _ _ _ 1 (v 7) ) gX2_parseLine_X2_fail rfl rfl rfl hdX2_fail ⟨Nat.le_of_ble_eq_true rfl, Nat.le_of_ble_eq_true rfl⟩ rfl (Nat.le_of_ble_eq_true rfl) dX2_parseLine_212 ⟨Nat.zero_le _, Nat.zero_le _⟩ ?_
              have hres : pLine tx n σ T = .inl (1, T.2.1) := by simp only [pLine]; rw [if_neg (by rw [hp1]; decide), if_neg (by rw [hp2]; decide), if_neg (by rw [hp4]; decide), if_neg (by rw [hp5]; decide), if_neg (by rw [hp6]; decide), if_neg (by rw [hp3]; decide)]
              exact z_zret C hr9 hk (zb_nar (false)) ((g, nI (v 7), upN v 2 1)) (congrArg (fun b : Bool => some (Value.int (nI b.toNat))) (okB_i hres)) (LnP_i hres ⟨congrArg nI ct.2.2.1, rfl, rfl⟩) (List.Perm.of_eq rfl) dX2_parseLine_215 (Nat.le_refl _) (Nat.le_refl _)
            · refine z_callVc C (cX_ok adK adV) hX (mX2_takeWord_Ty l D κ adK adV Pa Sa _ _ _ n _ 6 8 ct (by decide) kwP_6 hp6) gX2_parseLine_X2_takeWord rfl rfl rfl hdX2_takeWord ⟨Nat.le_of_ble_eq_true rfl, Nat.le_of_ble_eq_true rfl⟩ 0 rfl rfl (SW κ Sa g ++ []) (fun _ => SW κ Sa g ++ (PW κ Pa Sa eo (rdV tx v) tx ++ [])) zp_mid (fun _ => zp_mid) rfl (Nat.le_of_ble_eq_true rfl) dX2_parseLine_166 ⟨Nat.zero_le _, Nat.zero_le _⟩ (fun _ _ => ?_)
              obtain ⟨ct6, hn96, hv16, hv26⟩ := CT_rd ct (CT_e1 ct hp6)
              refine z_if_eq C 206 dX2_parseLine_169 (by decide) (fun q => absurd q (by decide)) (fun _ => ?_)
              refine z_aload_n C dX2_parseLine_172 0 rfl ?_
              refine z_iconst (v := nI 0) C dX2_parseLine_173 (by decide) ?_
              refine z_aload_n C dX2_parseLine_174 0 rfl ?_
              refine zq_get_result C hin2 k22 dX2_parseLine_175 ?_
              refine zs_get_blockCount C hin4 (x := σ 1) k108 dX2_parseLine_178 hr.1.s1 ?_
              refine z_iconst (v := nI 1) C dX2_parseLine_181 (by decide) ?_
              refine z_isub C dX2_parseLine_182 ?_
              rcases hp7 : pNum tx 0 (σ 1) (nxT tx n T) with ⟨c7, o7⟩ | a7
              · refine zq_call C (mX2_takeNumber_Ter l D κ Pa Sa _ _ _ n _ 0 (nI (σ 1) - nI 1) (σ 1) c7 o7 ct6 (by decide) (hh_blk hn1) hp7) gX2_parseLine_X2_takeNumber rfl rfl rfl hdX2_takeNumber ⟨Nat.le_of_ble_eq_true rfl, Nat.le_of_ble_eq_true rfl⟩ rfl (Nat.le_of_ble_eq_true rfl) dX2_parseLine_183 ⟨Nat.zero_le _, Nat.zero_le _⟩ ?_
                refine z_istore_n C [(1, .int (-1)), (0, .ref (Pa 0))] dX2_parseLine_186 (by decide) rfl ?_
                refine z_iload_n C dX2_parseLine_187 0 rfl ?_
                refine z_iconst (v := (-1)) C dX2_parseLine_188 (by decide) ?_
                refine z_icmp_eq C 204 dX2_parseLine_189 (by decide) (fun _ => ?_) (fun q => absurd rfl q)
                refine z_iconst (v := nI 0) C dX2_parseLine_204 (by decide) ?_
                have hres : pLine tx n σ T = .inl (c7, o7) := by simp only [pLine]; rw [if_neg (by rw [hp1]; decide), if_neg (by rw [hp2]; decide), if_neg (by rw [hp4]; decide), if_neg (by rw [hp5]; decide), if_pos hp6]; simp only [pRepair]; rw [hp7, bdS_l] <;> rfl
                exact z_zret C hr9 hk (by decide) ((g, nI o7, upN (rdV tx v) 2 c7)) (congrArg (fun b : Bool => some (Value.int (nI b.toNat))) (okB_i hres)) (LnP_i hres ⟨rfl, rfl, rfl⟩) (List.Perm.of_eq rfl) dX2_parseLine_205 (Nat.le_refl _) (Nat.le_refl _)
              · refine zq_call C (mX2_takeNumber_Tok l D κ Pa Sa _ _ _ n _ 0 (nI (σ 1) - nI 1) (σ 1) a7 ct6 (by decide) (hh_blk hn1) hp7) gX2_parseLine_X2_takeNumber rfl rfl rfl hdX2_takeNumber ⟨Nat.le_of_ble_eq_true rfl, Nat.le_of_ble_eq_true rfl⟩ rfl (Nat.le_of_ble_eq_true rfl) dX2_parseLine_183 ⟨Nat.zero_le _, Nat.zero_le _⟩ ?_
                have hlt7 := pNum_lt hp7
                have hge7 := pNum_ge hp7
                obtain ⟨ct7, hn97, hv17, hv27⟩ := CT_rd ct6 (CT_e2 ct6 hp7)
                refine z_istore_n C [(1, .int (nI a7)), (0, .ref (Pa 0))] dX2_parseLine_186 (by decide) rfl ?_
                refine z_iload_n C dX2_parseLine_187 0 rfl ?_
                refine z_iconst (v := (-1)) C dX2_parseLine_188 (by decide) ?_
                refine z_icmp_eq C 204 dX2_parseLine_189 (by decide) (fun q => absurd q (nI_neg1 (by omega))) (fun _ => ?_)
                refine z_aload_n C dX2_parseLine_192 1 rfl ?_
                refine z_iload_n C dX2_parseLine_193 0 rfl ?_
                by_cases hz : trAt σ a7 = 0
                · refine z_callV C (mX2_mend_ok l D κ Pa Sa _ _ _ _ σ M a7 hr hv (by omega) hz) gX2_parseLine_X2_mend rfl rfl rfl hdX2_mend ⟨Nat.le_of_ble_eq_true rfl, Nat.le_of_ble_eq_true rfl⟩ 13 rfl rfl [] (fun _ => SW κ Sa (up2 g 6 a7 0) ++ (PW κ Pa Sa eo (rdV tx (rdV tx v)) tx ++ [])) (List.Perm.of_eq rfl) (fun _ => List.Perm.of_eq rfl) rfl (Nat.le_of_ble_eq_true rfl) dX2_parseLine_194 ⟨Nat.zero_le _, Nat.zero_le _⟩ (fun _ _ => ?_)
                  have hr2 : Rep (up2 g 6 a7 0) (upN σ (5 + 6 * a7 + 1) 0) := hr.of (hr.1.dep hn1 hn2 (by omega)) rfl (upN_n (by omega)) (upN_n (by omega)) (fun u hu => upN_n (by omega))
                  refine z_if_eq C 204 dX2_parseLine_197 (by decide) (fun q => absurd q (by decide)) (fun _ => ?_)
                  refine z_iconst (v := nI 1) C dX2_parseLine_200 (by decide) ?_
                  refine z_goto (tgt := 205) C dX2_parseLine_201 (by decide) ?_
                  have hres : pLine tx n σ T = .inr (upN σ (5 + 6 * a7 + 1) 0, nxT tx n (nxT tx n T)) := by simp only [pLine]; rw [if_neg (by rw [hp1]; decide), if_neg (by rw [hp2]; decide), if_neg (by rw [hp4]; decide), if_neg (by rw [hp5]; decide), if_pos hp6]; simp only [pRepair]; rw [hp7, bdS_r, if_pos hz] <;> rfl
                  exact z_zret C hr9 hk (by decide) ((up2 g 6 a7 0, eo, rdV tx (rdV tx v))) (congrArg (fun b : Bool => some (Value.int (nI b.toNat))) (okB_r hres)) (LnP_r hres ⟨hr2, ct7, rfl, rfl, rfl⟩) (List.Perm.of_eq rfl) dX2_parseLine_205 (Nat.le_refl _) (Nat.le_refl _)
                · refine z_callV C (mX2_mend_no l D κ Pa Sa _ _ _ _ σ M a7 hr hv (by omega) hz) gX2_parseLine_X2_mend rfl rfl rfl hdX2_mend ⟨Nat.le_of_ble_eq_true rfl, Nat.le_of_ble_eq_true rfl⟩ 13 rfl rfl [] (fun _ => SW κ Sa g ++ (PW κ Pa Sa (nI ((rdV tx (rdV tx v)) 9)) (upN (rdV tx (rdV tx v)) 2 5) tx ++ [])) (List.Perm.of_eq rfl) (fun _ => List.Perm.of_eq rfl) rfl (Nat.le_of_ble_eq_true rfl) dX2_parseLine_194 ⟨Nat.zero_le _, Nat.zero_le _⟩ (fun _ _ => ?_)
                  refine z_if_eq C 204 dX2_parseLine_197 (by decide) (fun _ => ?_) (fun q => absurd (by decide) q)
                  refine z_iconst (v := nI 0) C dX2_parseLine_204 (by decide) ?_
                  have hres : pLine tx n σ T = .inl (5, (nxT tx n T).2.1) := by simp only [pLine]; rw [if_neg (by rw [hp1]; decide), if_neg (by rw [hp2]; decide), if_neg (by rw [hp4]; decide), if_neg (by rw [hp5]; decide), if_pos hp6]; simp only [pRepair]; rw [hp7, bdS_r, if_neg hz] <;> rfl
                  exact z_zret C hr9 hk (by decide) ((g, nI ((rdV tx (rdV tx v)) 9), upN (rdV tx (rdV tx v)) 2 5)) (congrArg (fun b : Bool => some (Value.int (nI b.toNat))) (okB_i hres)) (LnP_i hres ⟨congrArg nI hn97, rfl, rfl⟩) (List.Perm.of_eq rfl) dX2_parseLine_205 (Nat.le_refl _) (Nat.le_refl _)
          · refine z_callVc C (cX_ok adK adV) hX (mX2_takeWord_Ty l D κ adK adV Pa Sa _ _ _ n _ 5 7 ct (by decide) kwP_5 hp5) gX2_parseLine_X2_takeWord rfl rfl rfl hdX2_takeWord ⟨Nat.le_of_ble_eq_true rfl, Nat.le_of_ble_eq_true rfl⟩ 0 rfl rfl (SW κ Sa g ++ []) (fun _ => SW κ Sa g ++ (PW κ Pa Sa eo (rdV tx v) tx ++ [])) zp_mid (fun _ => zp_mid) rfl (Nat.le_of_ble_eq_true rfl) dX2_parseLine_123 ⟨Nat.zero_le _, Nat.zero_le _⟩ (fun _ _ => ?_)
            obtain ⟨ct5, hn95, hv15, hv25⟩ := CT_rd ct (CT_e1 ct hp5)
            refine z_if_eq C 163 dX2_parseLine_126 (by decide) (fun q => absurd q (by decide)) (fun _ => ?_)
            refine z_aload_n C dX2_parseLine_129 0 rfl ?_
            refine z_iconst (v := nI 0) C dX2_parseLine_130 (by decide) ?_
            refine z_aload_n C dX2_parseLine_131 0 rfl ?_
            refine zq_get_result C hin2 k22 dX2_parseLine_132 ?_
            refine zs_get_blockCount C hin4 (x := σ 1) k108 dX2_parseLine_135 hr.1.s1 ?_
            refine z_iconst (v := nI 1) C dX2_parseLine_138 (by decide) ?_
            refine z_isub C dX2_parseLine_139 ?_
            rcases hp6 : pNum tx 0 (σ 1) (nxT tx n T) with ⟨c6, o6⟩ | a6
            · refine zq_call C (mX2_takeNumber_Ter l D κ Pa Sa _ _ _ n _ 0 (nI (σ 1) - nI 1) (σ 1) c6 o6 ct5 (by decide) (hh_blk hn1) hp6) gX2_parseLine_X2_takeNumber rfl rfl rfl hdX2_takeNumber ⟨Nat.le_of_ble_eq_true rfl, Nat.le_of_ble_eq_true rfl⟩ rfl (Nat.le_of_ble_eq_true rfl) dX2_parseLine_140 ⟨Nat.zero_le _, Nat.zero_le _⟩ ?_
              refine z_istore_n C [(1, .int (-1)), (0, .ref (Pa 0))] dX2_parseLine_143 (by decide) rfl ?_
              refine z_iload_n C dX2_parseLine_144 0 rfl ?_
              refine z_iconst (v := (-1)) C dX2_parseLine_145 (by decide) ?_
              refine z_icmp_eq C 161 dX2_parseLine_146 (by decide) (fun _ => ?_) (fun q => absurd rfl q)
              refine z_iconst (v := nI 0) C dX2_parseLine_161 (by decide) ?_
              have hres : pLine tx n σ T = .inl (c6, o6) := by simp only [pLine]; rw [if_neg (by rw [hp1]; decide), if_neg (by rw [hp2]; decide), if_neg (by rw [hp4]; decide), if_pos hp5]; simp only [pDanger]; rw [hp6, bdS_l] <;> rfl
              exact z_zret C hr9 hk (by decide) ((g, nI o6, upN (rdV tx v) 2 c6)) (congrArg (fun b : Bool => some (Value.int (nI b.toNat))) (okB_i hres)) (LnP_i hres ⟨rfl, rfl, rfl⟩) (List.Perm.of_eq rfl) dX2_parseLine_162 (Nat.le_refl _) (Nat.le_refl _)
            · refine zq_call C (mX2_takeNumber_Tok l D κ Pa Sa _ _ _ n _ 0 (nI (σ 1) - nI 1) (σ 1) a6 ct5 (by decide) (hh_blk hn1) hp6) gX2_parseLine_X2_takeNumber rfl rfl rfl hdX2_takeNumber ⟨Nat.le_of_ble_eq_true rfl, Nat.le_of_ble_eq_true rfl⟩ rfl (Nat.le_of_ble_eq_true rfl) dX2_parseLine_140 ⟨Nat.zero_le _, Nat.zero_le _⟩ ?_
              have hlt6 := pNum_lt hp6
              have hge6 := pNum_ge hp6
              obtain ⟨ct6, hn96, hv16, hv26⟩ := CT_rd ct5 (CT_e2 ct5 hp6)
              refine z_istore_n C [(1, .int (nI a6)), (0, .ref (Pa 0))] dX2_parseLine_143 (by decide) rfl ?_
              refine z_iload_n C dX2_parseLine_144 0 rfl ?_
              refine z_iconst (v := (-1)) C dX2_parseLine_145 (by decide) ?_
              refine z_icmp_eq C 161 dX2_parseLine_146 (by decide) (fun q => absurd q (nI_neg1 (by omega))) (fun _ => ?_)
              refine z_aload_n C dX2_parseLine_149 1 rfl ?_
              refine z_iload_n C dX2_parseLine_150 0 rfl ?_
              by_cases hz : σ (5 + 6 * a6 + 4) = 0
              · refine z_callV C (mX2_showDanger_no l D κ Pa Sa _ _ _ _ σ M a6 hr hv (by omega) hz) gX2_parseLine_X2_showDanger rfl rfl rfl hdX2_showDanger ⟨Nat.le_of_ble_eq_true rfl, Nat.le_of_ble_eq_true rfl⟩ 13 rfl rfl [] (fun _ => SW κ Sa g ++ (PW κ Pa Sa (nI ((rdV tx (rdV tx v)) 9)) (upN (rdV tx (rdV tx v)) 2 5) tx ++ [])) (List.Perm.of_eq rfl) (fun _ => List.Perm.of_eq rfl) rfl (Nat.le_of_ble_eq_true rfl) dX2_parseLine_151 ⟨Nat.zero_le _, Nat.zero_le _⟩ (fun _ _ => ?_)
                refine z_if_eq C 161 dX2_parseLine_154 (by decide) (fun _ => ?_) (fun q => absurd (by decide) q)
                refine z_iconst (v := nI 0) C dX2_parseLine_161 (by decide) ?_
                have hres : pLine tx n σ T = .inl (5, (nxT tx n T).2.1) := by simp only [pLine]; rw [if_neg (by rw [hp1]; decide), if_neg (by rw [hp2]; decide), if_neg (by rw [hp4]; decide), if_pos hp5]; simp only [pDanger]; rw [hp6, bdS_r, if_pos hz] <;> rfl
                exact z_zret C hr9 hk (by decide) ((g, nI ((rdV tx (rdV tx v)) 9), upN (rdV tx (rdV tx v)) 2 5)) (congrArg (fun b : Bool => some (Value.int (nI b.toNat))) (okB_i hres)) (LnP_i hres ⟨congrArg nI hn96, rfl, rfl⟩) (List.Perm.of_eq rfl) dX2_parseLine_162 (Nat.le_refl _) (Nat.le_refl _)
              · refine z_callV C (mX2_showDanger_ok l D κ Pa Sa _ _ _ _ σ M a6 hr hv (by omega) hz) gX2_parseLine_X2_showDanger rfl rfl rfl hdX2_showDanger ⟨Nat.le_of_ble_eq_true rfl, Nat.le_of_ble_eq_true rfl⟩ 13 rfl rfl [] (fun _ => SW κ Sa (up2 g 8 a6 0) ++ (PW κ Pa Sa eo (rdV tx (rdV tx v)) tx ++ [])) (List.Perm.of_eq rfl) (fun _ => List.Perm.of_eq rfl) rfl (Nat.le_of_ble_eq_true rfl) dX2_parseLine_151 ⟨Nat.zero_le _, Nat.zero_le _⟩ (fun _ _ => ?_)
                have hr2 : Rep (up2 g 8 a6 0) (upN σ (5 + 6 * a6 + 4) 0) := hr.of (hr.1.clr hn1 hn2 (by omega)) rfl (upN_n (by omega)) (upN_n (by omega)) (fun u hu => upN_n (by omega))
                refine z_if_eq C 161 dX2_parseLine_154 (by decide) (fun q => absurd q (by decide)) (fun _ => ?_)
                refine z_iconst (v := nI 1) C dX2_parseLine_157 (by decide) ?_
                refine z_goto (tgt := 162) C dX2_parseLine_158 (by decide) ?_
                have hres : pLine tx n σ T = .inr (upN σ (5 + 6 * a6 + 4) 0, nxT tx n (nxT tx n T)) := by simp only [pLine]; rw [if_neg (by rw [hp1]; decide), if_neg (by rw [hp2]; decide), if_neg (by rw [hp4]; decide), if_pos hp5]; simp only [pDanger]; rw [hp6, bdS_r, if_neg hz] <;> rfl
                exact z_zret C hr9 hk (by decide) ((up2 g 8 a6 0, eo, rdV tx (rdV tx v))) (congrArg (fun b : Bool => some (Value.int (nI b.toNat))) (okB_r hres)) (LnP_r hres ⟨hr2, ct6, rfl, rfl, rfl⟩) (List.Perm.of_eq rfl) dX2_parseLine_162 (Nat.le_refl _) (Nat.le_refl _)
        · refine z_callVc C (cX_ok adK adV) hX (mX2_takeWord_Ty l D κ adK adV Pa Sa _ _ _ n _ 4 6 ct (by decide) kwP_4 hp4) gX2_parseLine_X2_takeWord rfl rfl rfl hdX2_takeWord ⟨Nat.le_of_ble_eq_true rfl, Nat.le_of_ble_eq_true rfl⟩ 0 rfl rfl (SW κ Sa g ++ []) (fun _ => SW κ Sa g ++ (PW κ Pa Sa eo (rdV tx v) tx ++ [])) zp_mid (fun _ => zp_mid) rfl (Nat.le_of_ble_eq_true rfl) dX2_parseLine_80 ⟨Nat.zero_le _, Nat.zero_le _⟩ (fun _ _ => ?_)
          obtain ⟨ct4, hn94, hv14, hv24⟩ := CT_rd ct (CT_e1 ct hp4)
          refine z_if_eq C 120 dX2_parseLine_83 (by decide) (fun q => absurd q (by decide)) (fun _ => ?_)
          refine z_aload_n C dX2_parseLine_86 0 rfl ?_
          refine z_iconst (v := nI 0) C dX2_parseLine_87 (by decide) ?_
          refine z_aload_n C dX2_parseLine_88 0 rfl ?_
          refine zq_get_result C hin2 k22 dX2_parseLine_89 ?_
          refine zs_get_blockCount C hin4 (x := σ 1) k108 dX2_parseLine_92 hr.1.s1 ?_
          refine z_iconst (v := nI 1) C dX2_parseLine_95 (by decide) ?_
          refine z_isub C dX2_parseLine_96 ?_
          rcases hp5 : pNum tx 0 (σ 1) (nxT tx n T) with ⟨c5, o5⟩ | a5
          · refine zq_call C (mX2_takeNumber_Ter l D κ Pa Sa _ _ _ n _ 0 (nI (σ 1) - nI 1) (σ 1) c5 o5 ct4 (by decide) (hh_blk hn1) hp5) gX2_parseLine_X2_takeNumber rfl rfl rfl hdX2_takeNumber ⟨Nat.le_of_ble_eq_true rfl, Nat.le_of_ble_eq_true rfl⟩ rfl (Nat.le_of_ble_eq_true rfl) dX2_parseLine_97 ⟨Nat.zero_le _, Nat.zero_le _⟩ ?_
            refine z_istore_n C [(1, .int (-1)), (0, .ref (Pa 0))] dX2_parseLine_100 (by decide) rfl ?_
            refine z_iload_n C dX2_parseLine_101 0 rfl ?_
            refine z_iconst (v := (-1)) C dX2_parseLine_102 (by decide) ?_
            refine z_icmp_eq C 118 dX2_parseLine_103 (by decide) (fun _ => ?_) (fun q => absurd rfl q)
            refine z_iconst (v := nI 0) C dX2_parseLine_118 (by decide) ?_
            have hres : pLine tx n σ T = .inl (c5, o5) := by simp only [pLine]; rw [if_neg (by rw [hp1]; decide), if_neg (by rw [hp2]; decide), if_pos hp4]; simp only [pPull]; rw [hp5, bdS_l] <;> rfl
            exact z_zret C hr9 hk (by decide) ((g, nI o5, upN (rdV tx v) 2 c5)) (congrArg (fun b : Bool => some (Value.int (nI b.toNat))) (okB_i hres)) (LnP_i hres ⟨rfl, rfl, rfl⟩) (List.Perm.of_eq rfl) dX2_parseLine_119 (Nat.le_refl _) (Nat.le_refl _)
          · refine zq_call C (mX2_takeNumber_Tok l D κ Pa Sa _ _ _ n _ 0 (nI (σ 1) - nI 1) (σ 1) a5 ct4 (by decide) (hh_blk hn1) hp5) gX2_parseLine_X2_takeNumber rfl rfl rfl hdX2_takeNumber ⟨Nat.le_of_ble_eq_true rfl, Nat.le_of_ble_eq_true rfl⟩ rfl (Nat.le_of_ble_eq_true rfl) dX2_parseLine_97 ⟨Nat.zero_le _, Nat.zero_le _⟩ ?_
            have hlt5 := pNum_lt hp5
            have hge5 := pNum_ge hp5
            obtain ⟨ct5, hn95, hv15, hv25⟩ := CT_rd ct4 (CT_e2 ct4 hp5)
            refine z_istore_n C [(1, .int (nI a5)), (0, .ref (Pa 0))] dX2_parseLine_100 (by decide) rfl ?_
            refine z_iload_n C dX2_parseLine_101 0 rfl ?_
            refine z_iconst (v := (-1)) C dX2_parseLine_102 (by decide) ?_
            refine z_icmp_eq C 118 dX2_parseLine_103 (by decide) (fun q => absurd q (nI_neg1 (by omega))) (fun _ => ?_)
            refine z_aload_n C dX2_parseLine_106 1 rfl ?_
            refine z_iload_n C dX2_parseLine_107 0 rfl ?_
            by_cases hz : rsn σ a5 = 0
            · refine z_callV C (mX2_pullLever_ok l D κ Pa Sa _ _ _ _ σ M a5 hr hv (by omega) hz) gX2_parseLine_X2_pullLever rfl rfl rfl hdX2_pullLever ⟨Nat.le_of_ble_eq_true rfl, Nat.le_of_ble_eq_true rfl⟩ 13 rfl rfl [] (fun _ => SW κ Sa (up2 g 8 a5 1) ++ (PW κ Pa Sa eo (rdV tx (rdV tx v)) tx ++ [])) (List.Perm.of_eq rfl) (fun _ => List.Perm.of_eq rfl) rfl (Nat.le_of_ble_eq_true rfl) dX2_parseLine_108 ⟨Nat.zero_le _, Nat.zero_le _⟩ (fun _ _ => ?_)
              have hr2 : Rep (up2 g 8 a5 1) (upN σ (5 + 6 * a5 + 4) 1) := hr.of (hr.1.clr hn1 hn2 (by omega)) rfl (upN_n (by omega)) (upN_n (by omega)) (fun u hu => upN_n (by omega))
              refine z_if_eq C 118 dX2_parseLine_111 (by decide) (fun q => absurd q (by decide)) (fun _ => ?_)
              refine z_iconst (v := nI 1) C dX2_parseLine_114 (by decide) ?_
              refine z_goto (tgt := 119) C dX2_parseLine_115 (by decide) ?_
              have hres : pLine tx n σ T = .inr (upN σ (5 + 6 * a5 + 4) 1, nxT tx n (nxT tx n T)) := by simp only [pLine]; rw [if_neg (by rw [hp1]; decide), if_neg (by rw [hp2]; decide), if_pos hp4]; simp only [pPull]; rw [hp5, bdS_r, if_pos hz] <;> rfl
              exact z_zret C hr9 hk (by decide) ((up2 g 8 a5 1, eo, rdV tx (rdV tx v))) (congrArg (fun b : Bool => some (Value.int (nI b.toNat))) (okB_r hres)) (LnP_r hres ⟨hr2, ct5, rfl, rfl, rfl⟩) (List.Perm.of_eq rfl) dX2_parseLine_119 (Nat.le_refl _) (Nat.le_refl _)
            · refine z_callV C (mX2_pullLever_no l D κ Pa Sa _ _ _ _ σ M a5 hr hv (by omega) hz) gX2_parseLine_X2_pullLever rfl rfl rfl hdX2_pullLever ⟨Nat.le_of_ble_eq_true rfl, Nat.le_of_ble_eq_true rfl⟩ 13 rfl rfl [] (fun _ => SW κ Sa g ++ (PW κ Pa Sa (nI ((rdV tx (rdV tx v)) 9)) (upN (rdV tx (rdV tx v)) 2 5) tx ++ [])) (List.Perm.of_eq rfl) (fun _ => List.Perm.of_eq rfl) rfl (Nat.le_of_ble_eq_true rfl) dX2_parseLine_108 ⟨Nat.zero_le _, Nat.zero_le _⟩ (fun _ _ => ?_)
              refine z_if_eq C 118 dX2_parseLine_111 (by decide) (fun _ => ?_) (fun q => absurd (by decide) q)
              refine z_iconst (v := nI 0) C dX2_parseLine_118 (by decide) ?_
              have hres : pLine tx n σ T = .inl (5, (nxT tx n T).2.1) := by simp only [pLine]; rw [if_neg (by rw [hp1]; decide), if_neg (by rw [hp2]; decide), if_pos hp4]; simp only [pPull]; rw [hp5, bdS_r, if_neg hz] <;> rfl
              exact z_zret C hr9 hk (by decide) ((g, nI ((rdV tx (rdV tx v)) 9), upN (rdV tx (rdV tx v)) 2 5)) (congrArg (fun b : Bool => some (Value.int (nI b.toNat))) (okB_i hres)) (LnP_i hres ⟨congrArg nI hn95, rfl, rfl⟩) (List.Perm.of_eq rfl) dX2_parseLine_119 (Nat.le_refl _) (Nat.le_refl _)
      · refine z_callVc C (cX_ok adK adV) hX (mX2_takeWord_Ty l D κ adK adV Pa Sa _ _ _ n _ 7 5 ct (by decide) kwP_7 hp3) gX2_parseLine_X2_takeWord rfl rfl rfl hdX2_takeWord ⟨Nat.le_of_ble_eq_true rfl, Nat.le_of_ble_eq_true rfl⟩ 0 rfl rfl (SW κ Sa g ++ []) (fun _ => SW κ Sa g ++ (PW κ Pa Sa eo (rdV tx v) tx ++ [])) zp_mid (fun _ => zp_mid) rfl (Nat.le_of_ble_eq_true rfl) dX2_parseLine_31 ⟨Nat.zero_le _, Nat.zero_le _⟩ (fun _ _ => ?_)
        obtain ⟨ct3, hn93, hv13, hv23⟩ := CT_rd ct (CT_e1 ct hp3)
        refine z_if_eq C 77 dX2_parseLine_34 (by decide) (fun q => absurd q (by decide)) (fun _ => ?_)
        refine z_aload_n C dX2_parseLine_37 0 rfl ?_
        refine z_iconst (v := nI 1) C dX2_parseLine_38 (by decide) ?_
        refine z_bipush (v := nI 99) C dX2_parseLine_39 (by decide) ?_
        refine z_sipush (v := nI 9999) C dX2_parseLine_41 (by decide) ?_
        refine z_aload_n C dX2_parseLine_44 0 rfl ?_
        refine zq_get_result C hin2 k22 dX2_parseLine_45 ?_
        refine zs_get_tick C hin4 (x := σ 0) k96 dX2_parseLine_48 hr.1.s0 ?_
        refine zn_isub C dX2_parseLine_51 (by omega) ?_
        refine zn_min C (show Cond.methodLink RX2 43 Lib.Math.min.name ∈ wsX2_parseLine from by decide +kernel) (by decide +kernel) (by decide +kernel) (by decide +kernel) (by omega) (by omega) ⟨Nat.le_of_ble_eq_true rfl, Nat.le_of_ble_eq_true rfl⟩ (Nat.le_of_ble_eq_true rfl) dX2_parseLine_52 ⟨Nat.zero_le _, Nat.zero_le _⟩ ?_
        rcases hp4 : pNum tx 1 ((if 9999 - (σ 0) < 99 then 9999 - (σ 0) else 99) + 1) (nxT tx n T) with ⟨c4, o4⟩ | a4
        · refine zq_call C (mX2_takeNumber_Ter l D κ Pa Sa _ _ _ n _ 1 (nI (if 9999 - (σ 0) < 99 then 9999 - (σ 0) else 99)) ((if 9999 - (σ 0) < 99 then 9999 - (σ 0) else 99) + 1) c4 o4 ct3 (by decide) (hh_lit (by decide) (by split <;> omega) rfl) hp4) gX2_parseLine_X2_takeNumber rfl rfl rfl hdX2_takeNumber ⟨Nat.le_of_ble_eq_true rfl, Nat.le_of_ble_eq_true rfl⟩ rfl (Nat.le_of_ble_eq_true rfl) dX2_parseLine_55 ⟨Nat.zero_le _, Nat.zero_le _⟩ ?_
          refine z_istore_n C [(1, .int (-1)), (0, .ref (Pa 0))] dX2_parseLine_58 (by decide) rfl ?_
          refine z_iload_n C dX2_parseLine_59 0 rfl ?_
          refine z_iconst (v := (-1)) C dX2_parseLine_60 (by decide) ?_
          refine z_icmp_ne C 66 dX2_parseLine_61 (by decide) (fun q => absurd rfl q) (fun _ => ?_)
          refine z_iconst (v := nI 0) C dX2_parseLine_64 (by decide) ?_
          have hres : pLine tx n σ T = .inl (c4, o4) := by simp only [pLine]; rw [if_neg (by rw [hp1]; decide), if_neg (by rw [hp2]; decide), if_neg (kyM_ne ct kwP_7 kwP_4 (by decide) hp3), if_neg (kyM_ne ct kwP_7 kwP_5 (by decide) hp3), if_neg (kyM_ne ct kwP_7 kwP_6 (by decide) hp3), if_pos hp3]; simp only [pTicks]; rw [hp4, bdS_l] <;> rfl
          exact z_zret C hr9 hk (by decide) ((g, nI o4, upN (rdV tx v) 2 c4)) (congrArg (fun b : Bool => some (Value.int (nI b.toNat))) (okB_i hres)) (LnP_i hres ⟨rfl, rfl, rfl⟩) (List.Perm.of_eq rfl) dX2_parseLine_65 (Nat.le_refl _) (Nat.le_refl _)
        · refine zq_call C (mX2_takeNumber_Tok l D κ Pa Sa _ _ _ n _ 1 (nI (if 9999 - (σ 0) < 99 then 9999 - (σ 0) else 99)) ((if 9999 - (σ 0) < 99 then 9999 - (σ 0) else 99) + 1) a4 ct3 (by decide) (hh_lit (by decide) (by split <;> omega) rfl) hp4) gX2_parseLine_X2_takeNumber rfl rfl rfl hdX2_takeNumber ⟨Nat.le_of_ble_eq_true rfl, Nat.le_of_ble_eq_true rfl⟩ rfl (Nat.le_of_ble_eq_true rfl) dX2_parseLine_55 ⟨Nat.zero_le _, Nat.zero_le _⟩ ?_
          have hlt4 := pNum_lt hp4
          have hge4 := pNum_ge hp4
          obtain ⟨ct4, hn94, hv14, hv24⟩ := CT_rd ct3 (CT_e2 ct3 hp4)
          refine z_istore_n C [(1, .int (nI a4)), (0, .ref (Pa 0))] dX2_parseLine_58 (by decide) rfl ?_
          have ha9 : a4 ≤ 99 := by
            have := hlt4
            split at this <;> omega
          refine z_iload_n C dX2_parseLine_59 0 rfl ?_
          refine z_iconst (v := (-1)) C dX2_parseLine_60 (by decide) ?_
          refine z_icmp_ne C 66 dX2_parseLine_61 (by decide) (fun _ => ?_) (fun q => absurd q (nI_neg1 (by omega)))
          refine z_aload_n C dX2_parseLine_66 1 rfl ?_
          refine zq_get_result C hin2 k22 dX2_parseLine_67 ?_
          refine z_iload_n C dX2_parseLine_70 0 rfl ?_
          refine zc_callR C (mX4_pass l D κ Sa _ _ _ a4 hr hv (by omega)) gX2_parseLine_X4_pass rfl rfl rfl hdX4_pass ⟨Nat.le_of_ble_eq_true rfl, Nat.le_of_ble_eq_true rfl⟩ rfl (Nat.le_of_ble_eq_true rfl) dX2_parseLine_71 ⟨Nat.zero_le _, Nat.zero_le _⟩ (fun gp hgp => ?_)
          refine z_pop C dX2_parseLine_74 rfl ?_
          refine z_iconst (v := nI 1) C dX2_parseLine_75 (by decide) ?_
          have hres : pLine tx n σ T = .inr (psS a4 σ, nxT tx n (nxT tx n T)) := by simp only [pLine]; rw [if_neg (by rw [hp1]; decide), if_neg (by rw [hp2]; decide), if_neg (kyM_ne ct kwP_7 kwP_4 (by decide) hp3), if_neg (kyM_ne ct kwP_7 kwP_5 (by decide) hp3), if_neg (kyM_ne ct kwP_7 kwP_6 (by decide) hp3), if_pos hp3]; simp only [pTicks]; rw [hp4, bdS_r] <;> rfl
          exact z_zret C hr9 hk (by decide) ((gp, eo, rdV tx (rdV tx v))) (congrArg (fun b : Bool => some (Value.int (nI b.toNat))) (okB_r hres)) (LnP_r hres ⟨hgp, ct4, rfl, rfl, rfl⟩) (List.Perm.of_eq rfl) dX2_parseLine_76 (Nat.le_refl _) (Nat.le_refl _)
    · refine z_callVc C (cX_ok adK adV) hX (mX2_takeWord_Ty l D κ adK adV Pa Sa _ _ _ n _ 3 4 ct (by decide) kwP_3 hp2) gX2_parseLine_X2_takeWord rfl rfl rfl hdX2_takeWord ⟨Nat.le_of_ble_eq_true rfl, Nat.le_of_ble_eq_true rfl⟩ 0 rfl rfl (SW κ Sa g ++ []) (fun _ => SW κ Sa g ++ (PW κ Pa Sa eo (rdV tx v) tx ++ [])) zp_mid (fun _ => zp_mid) rfl (Nat.le_of_ble_eq_true rfl) dX2_parseLine_17 ⟨Nat.zero_le _, Nat.zero_le _⟩ (fun _ _ => ?_)
      obtain ⟨ct2, hn92, hv12, hv22⟩ := CT_rd ct (CT_e1 ct hp2)
      refine z_if_eq C 28 dX2_parseLine_20 (by decide) (fun q => absurd q (by decide)) (fun _ => ?_)
      refine z_aload_n C dX2_parseLine_23 0 rfl ?_
      refine z_callVc C (cX_ok adK adV) hX (mX2_parseTrain l D κ adK adV Pa Sa _ _ _ _ σ M n T hr hv ct2 hn92) gX2_parseLine_X2_parseTrain rfl rfl rfl hdX2_parseTrain ⟨Nat.le_of_ble_eq_true rfl, Nat.le_of_ble_eq_true rfl⟩ 13 rfl rfl [] (fun u => SW κ Sa u.1 ++ (PW κ Pa Sa u.2.1 u.2.2 tx ++ [])) (List.Perm.of_eq rfl) (fun _ => List.Perm.of_eq rfl) rfl (Nat.le_of_ble_eq_true rfl) dX2_parseLine_24 ⟨Nat.zero_le _, Nat.zero_le _⟩ (fun u hu => ?_)
      have hres : pLine tx n σ T = pTrain tx n σ T := by simp only [pLine]; rw [if_neg (by rw [hp1]; decide), if_pos hp2]
      exact z_zret C hr9 hk (zb_nar (okB (pTrain tx n σ T))) (u) (by rw [hres]) (by rw [hres]; exact hu) (List.Perm.of_eq rfl) dX2_parseLine_27 (Nat.le_refl _) (Nat.le_refl _)
  · refine z_callVc C (cX_ok adK adV) hX (mX2_takeWord_Ty l D κ adK adV Pa Sa _ _ _ n _ 1 2 ct (by decide) kwP_1 hp1) gX2_parseLine_X2_takeWord rfl rfl rfl hdX2_takeWord ⟨Nat.le_of_ble_eq_true rfl, Nat.le_of_ble_eq_true rfl⟩ 0 rfl rfl (SW κ Sa g ++ []) (fun _ => SW κ Sa g ++ (PW κ Pa Sa eo (rdV tx v) tx ++ [])) zp_mid (fun _ => zp_mid) rfl (Nat.le_of_ble_eq_true rfl) dX2_parseLine_3 ⟨Nat.zero_le _, Nat.zero_le _⟩ (fun _ _ => ?_)
    obtain ⟨ct1, hn91, hv11, hv21⟩ := CT_rd ct (CT_e1 ct hp1)
    refine z_if_eq C 14 dX2_parseLine_6 (by decide) (fun q => absurd q (by decide)) (fun _ => ?_)
    refine z_aload_n C dX2_parseLine_9 0 rfl ?_
    refine z_callVc C (cX_ok adK adV) hX (mX2_parseBlock l D κ adK adV Pa Sa _ _ _ _ σ M n T hr hv ct1 hn91) gX2_parseLine_X2_parseBlock rfl rfl rfl hdX2_parseBlock ⟨Nat.le_of_ble_eq_true rfl, Nat.le_of_ble_eq_true rfl⟩ 13 rfl rfl [] (fun u => SW κ Sa u.1 ++ (PW κ Pa Sa u.2.1 u.2.2 tx ++ [])) (List.Perm.of_eq rfl) (fun _ => List.Perm.of_eq rfl) rfl (Nat.le_of_ble_eq_true rfl) dX2_parseLine_10 ⟨Nat.zero_le _, Nat.zero_le _⟩ (fun u hu => ?_)
    have hres : pLine tx n σ T = pBlock tx n σ T := by simp only [pLine]; rw [if_pos hp1]
    exact z_zret C hr9 hk (zb_nar (okB (pBlock tx n σ T))) (u) (by rw [hres]) (by rw [hres]; exact hu) (List.Perm.of_eq rfl) dX2_parseLine_13 (Nat.le_refl _) (Nat.le_refl _)
theorem hdX2_parseLine : yX2_parseLine.cls = RX2 ∧ yX2_parseLine.cls ≠ "java/lang/invoke/MethodHandle" ∧ yX2_parseLine.cls ≠ "java/lang/invoke/VarHandle" ∧ (parseMethodDescriptor yX2_parseLine.desc).map (fun d => d.parameters.length) = some 0 := by decide +kernel
end Q8
