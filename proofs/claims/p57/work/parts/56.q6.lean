section Q6
theorem CT_e2 {tx : Nat → Int32} {n : Nat} {v : Nat → Nat} {T : Tok} {lo hX a : Nat} (h : CT tx n v T) (hp : pNum tx lo hX T = .inr a) : v 6 = T.1 := by
  obtain ⟨-, -, -, -, -, -, -, h6, -, -⟩ := h
  simp only [pNum] at hp
  split at hp
  · omega
  · cases hp
theorem CT_e1 {tx : Nat → Int32} {n ki : Nat} {v : Nat → Nat} {T : Tok} (h : CT tx n v T) (hp : kyM ki tx T = true) : v 6 = T.1 := by
  have h1 := kyM_1 hp
  obtain ⟨-, -, -, -, -, -, -, h6, -, -⟩ := h
  omega
/-- a parser's method that answers yes or no, over both, in the context -/
abbrev qMc (adK adV : Nat → Nat) (l : Launch) (y : MethodName) (wsw : List Cond) (rm : Room) (D : va_G) (κ : Nat → ClassId) (Pa Sa : Nat → Nat) (As : List Value) (g : Nat → Nat → Nat) (eo : Int32) (v : Nat → Nat) (tx : Nat → Int32) (ret : Bool) (P : (Nat → Nat → Nat) × Int32 × (Nat → Nat) → Prop) : Prop :=
  zMc (cX adK adV) l y wsw rm D (zTy κ) (.ref (Pa 0) :: As) (SW κ Sa g ++ PW κ Pa Sa eo v tx) (S := (Nat → Nat → Nat) × Int32 × (Nat → Nat)) (fun _ => some (.int (nI ret.toNat))) P (fun u => SW κ Sa u.1 ++ PW κ Pa Sa u.2.1 u.2.2 tx) 0 0
/-- behind a line that is right -/
def LnY (tx : Nat → Int32) (n : Nat) (eo : Int32) (v : Nat → Nat) (r : PSt) (u : (Nat → Nat → Nat) × Int32 × (Nat → Nat)) : Prop := Rep u.1 r.1 ∧ CT tx n u.2.2 r.2 ∧ u.2.1 = eo ∧ u.2.2 1 = v 1 ∧ u.2.2 2 = v 2
/-- behind a line with an error -/
def LnE (v : Nat → Nat) (c o : Nat) (u : (Nat → Nat → Nat) × Int32 × (Nat → Nat)) : Prop := u.2.1 = nI o ∧ u.2.2 2 = c ∧ u.2.2 1 = v 1
def okB (r : Ept PSt) : Bool := match r with
  | .inl _ => false
  | .inr _ => true
def LnP (tx : Nat → Int32) (n : Nat) (eo : Int32) (v : Nat → Nat) (r : Ept PSt) (u : (Nat → Nat → Nat) × Int32 × (Nat → Nat)) : Prop := match r with
  | .inl e => LnE v e.1 e.2 u
  | .inr r => LnY tx n eo v r u
theorem okB_i {r : Ept PSt} {e : Nat × Nat} (h : r = .inl e) : okB r = false := by rw [h]; rfl
theorem okB_r {r : Ept PSt} {x : PSt} (h : r = .inr x) : okB r = true := by rw [h]; rfl
theorem LnP_i {tx : Nat → Int32} {n : Nat} {eo : Int32} {v : Nat → Nat} {r : Ept PSt} {c o : Nat} {u : (Nat → Nat → Nat) × Int32 × (Nat → Nat)} (h : r = .inl (c, o)) (h1 : LnE v c o u) : LnP tx n eo v r u := by rw [h]; exact h1
theorem LnP_r {tx : Nat → Int32} {n : Nat} {eo : Int32} {v : Nat → Nat} {r : Ept PSt} {x : PSt} {u : (Nat → Nat → Nat) × Int32 × (Nat → Nat)} (h : r = .inr x) (h1 : LnY tx n eo v x u) : LnP tx n eo v r u := by rw [h]; exact h1
set_option maxRecDepth 100000 in
set_option maxHeartbeats 4000000 in
theorem mX2_parseBlock (l : Launch) (D : va_G) (κ : Nat → ClassId) (adK adV : Nat → Nat) (Pa Sa : Nat → Nat) (g : Nat → Nat → Nat) (eo : Int32) (v : Nat → Nat) (tx : Nat → Int32) (σ : Nat → Nat) (M : Nat) (n : Nat) (T : Tok) (hr : Rep g σ) (hv : Inv M σ) (ct : CT tx n v (nxT tx n T)) (h9 : v 9 = T.2.1) : qMc adK adV l yX2_parseBlock wsX2_parseBlock { frames := 5, cells := 0, slots := 0, locals := 107 } D κ Pa Sa [] g eo v tx (okB (pBlock tx n σ T)) (LnP tx n eo v (pBlock tx n σ T)) := by
  refine zMc_of (cc := cX2_parseBlock) (maxL := 4) (rt := (some .boolean)) [(0, .ref (Pa 0))] (by decide +kernel) rfl (Nat.le_of_ble_eq_true rfl) rfl ?_
  intro p e s m args below meth c A C hr9 hk hnm hX
  have C : zC p s m args c cX2_parseBlock 4 wsX2_parseBlock RX2 D (zTy κ) A := C
  have hin2 : ∀ w ∈ wsX20, w ∈ wsX2_parseBlock := fun w h => List.mem_cons_of_mem _ (List.mem_append_left _ (List.mem_append_left _ (List.mem_append_right _ h)))
  have hin4 : ∀ w ∈ wsX40, w ∈ wsX2_parseBlock := fun w h => List.mem_cons_of_mem _ (List.mem_append_left _ (List.mem_append_right _ h))
  have k22 : Cond.fieldLink RX2 22 "PeatRailway$Parser" "result" "LPeatRailway$State;" ∈ wsX2_parseBlock := by decide +kernel
  have k108 : Cond.fieldLink RX2 108 "PeatRailway$State" "blockCount" "I" ∈ wsX2_parseBlock := by decide +kernel
  have k125 : Cond.fieldLink RX2 125 "PeatRailway$Parser" "takenStart" "I" ∈ wsX2_parseBlock := by decide +kernel
  refine z_eq (ws' := SW κ Sa g ++ (PW κ Pa Sa eo v tx ++ [])) ?_ rfl rfl rfl rfl
  have hn1 := hv.n1
  have hn2 := hv.n2
  refine z_aload_n C dX2_parseBlock_0 0 rfl ?_
  refine zq_get_result C hin2 k22 dX2_parseBlock_1 ?_
  refine zs_get_blockCount C hin4 (x := σ 1) k108 dX2_parseBlock_4 hr.1.s1 ?_
  refine z_bipush (v := nI 10) C dX2_parseBlock_7 (by decide) ?_
  refine zn_icmp_lt C 22 dX2_parseBlock_9 (by decide) (by omega) (by omega) (fun h1 => ?_) (fun h2 => ?_)
  · refine z_aload_n C dX2_parseBlock_22 0 rfl ?_
    refine z_iconst (v := nI 1) C dX2_parseBlock_23 (by decide) ?_
    refine z_bipush (v := nI 20) C dX2_parseBlock_24 (by decide) ?_
    rcases hp1 : pNum tx 1 21 (nxT tx n T) with ⟨c1, o1⟩ | a1
    · refine zq_call C (mX2_takeNumber_Ter l D κ Pa Sa _ _ _ n _ 1 (nI 20) 21 c1 o1 ct (by decide) (hh_lit (by decide) (by decide) rfl) hp1) gX2_parseBlock_X2_takeNumber rfl rfl rfl hdX2_takeNumber ⟨Nat.le_of_ble_eq_true rfl, Nat.le_of_ble_eq_true rfl⟩ rfl (Nat.le_of_ble_eq_true rfl) dX2_parseBlock_26 ⟨Nat.zero_le _, Nat.zero_le _⟩ ?_
      refine z_istore_n C [(1, .int (-1)), (0, .ref (Pa 0))] dX2_parseBlock_29 (by decide) rfl ?_
      refine z_iload_n C dX2_parseBlock_30 0 rfl ?_
      refine z_iconst (v := (-1)) C dX2_parseBlock_31 (by decide) ?_
      refine z_icmp_ne C 37 dX2_parseBlock_32 (by decide) (fun q => absurd rfl q) (fun _ => ?_)
      refine z_iconst (v := nI 0) C dX2_parseBlock_35 (by decide) ?_
      have hres : pBlock tx n σ T = .inl (c1, o1) := by simp only [pBlock]; rw [if_neg (by omega), hp1, bdS_l] <;> rfl
      exact z_zret C hr9 hk (by decide) ((g, nI o1, upN v 2 c1)) (congrArg (fun b : Bool => some (Value.int (nI b.toNat))) (okB_i hres)) (LnP_i hres ⟨rfl, rfl, rfl⟩) (List.Perm.of_eq rfl) dX2_parseBlock_36 (Nat.le_refl _) (Nat.le_refl _)
    · refine zq_call C (mX2_takeNumber_Tok l D κ Pa Sa _ _ _ n _ 1 (nI 20) 21 a1 ct (by decide) (hh_lit (by decide) (by decide) rfl) hp1) gX2_parseBlock_X2_takeNumber rfl rfl rfl hdX2_takeNumber ⟨Nat.le_of_ble_eq_true rfl, Nat.le_of_ble_eq_true rfl⟩ rfl (Nat.le_of_ble_eq_true rfl) dX2_parseBlock_26 ⟨Nat.zero_le _, Nat.zero_le _⟩ ?_
      have hlt1 := pNum_lt hp1
      have hge1 := pNum_ge hp1
      obtain ⟨ct1, hn91, hv11, hv21⟩ := CT_rd ct (CT_e2 ct hp1)
      refine z_istore_n C [(1, .int (nI a1)), (0, .ref (Pa 0))] dX2_parseBlock_29 (by decide) rfl ?_
      refine z_iload_n C dX2_parseBlock_30 0 rfl ?_
      refine z_iconst (v := (-1)) C dX2_parseBlock_31 (by decide) ?_
      refine z_icmp_ne C 37 dX2_parseBlock_32 (by decide) (fun _ => ?_) (fun q => absurd q (nI_neg1 (by omega)))
      refine z_aload_n C dX2_parseBlock_37 1 rfl ?_
      refine z_iconst (v := nI 0) C dX2_parseBlock_38 (by decide) ?_
      refine z_bipush (v := nI 9) C dX2_parseBlock_39 (by decide) ?_
      rcases hp2 : pNum tx 0 10 (nxT tx n (nxT tx n T)) with ⟨c2, o2⟩ | a2
      · refine zq_call C (mX2_takeNumber_Ter l D κ Pa Sa _ _ _ n _ 0 (nI 9) 10 c2 o2 ct1 (by decide) (hh_lit (by decide) (by decide) rfl) hp2) gX2_parseBlock_X2_takeNumber rfl rfl rfl hdX2_takeNumber ⟨Nat.le_of_ble_eq_true rfl, Nat.le_of_ble_eq_true rfl⟩ rfl (Nat.le_of_ble_eq_true rfl) dX2_parseBlock_41 ⟨Nat.zero_le _, Nat.zero_le _⟩ ?_
        refine z_istore_n C [(2, .int (-1)), (1, .int (nI a1)), (0, .ref (Pa 0))] dX2_parseBlock_44 (by decide) rfl ?_
        refine z_iload_n C dX2_parseBlock_45 0 rfl ?_
        refine z_iconst (v := (-1)) C dX2_parseBlock_46 (by decide) ?_
        refine z_icmp_ne C 52 dX2_parseBlock_47 (by decide) (fun q => absurd rfl q) (fun _ => ?_)
        refine z_iconst (v := nI 0) C dX2_parseBlock_50 (by decide) ?_
        have hres : pBlock tx n σ T = .inl (c2, o2) := by simp only [pBlock]; rw [if_neg (by omega), hp1, bdS_r, hp2, bdS_l] <;> rfl
        exact z_zret C hr9 hk (by decide) ((g, nI o2, upN (rdV tx v) 2 c2)) (congrArg (fun b : Bool => some (Value.int (nI b.toNat))) (okB_i hres)) (LnP_i hres ⟨rfl, rfl, rfl⟩) (List.Perm.of_eq rfl) dX2_parseBlock_51 (Nat.le_refl _) (Nat.le_refl _)
      · refine zq_call C (mX2_takeNumber_Tok l D κ Pa Sa _ _ _ n _ 0 (nI 9) 10 a2 ct1 (by decide) (hh_lit (by decide) (by decide) rfl) hp2) gX2_parseBlock_X2_takeNumber rfl rfl rfl hdX2_takeNumber ⟨Nat.le_of_ble_eq_true rfl, Nat.le_of_ble_eq_true rfl⟩ rfl (Nat.le_of_ble_eq_true rfl) dX2_parseBlock_41 ⟨Nat.zero_le _, Nat.zero_le _⟩ ?_
        have hlt2 := pNum_lt hp2
        have hge2 := pNum_ge hp2
        obtain ⟨ct2, hn92, hv12, hv22⟩ := CT_rd ct1 (CT_e2 ct1 hp2)
        refine z_istore_n C [(2, .int (nI a2)), (1, .int (nI a1)), (0, .ref (Pa 0))] dX2_parseBlock_44 (by decide) rfl ?_
        refine z_iload_n C dX2_parseBlock_45 0 rfl ?_
        refine z_iconst (v := (-1)) C dX2_parseBlock_46 (by decide) ?_
        refine z_icmp_ne C 52 dX2_parseBlock_47 (by decide) (fun _ => ?_) (fun q => absurd q (nI_neg1 (by omega)))
        refine z_iconst (v := nI 0) C dX2_parseBlock_52 (by decide) ?_
        refine z_istore_n C [(3, .int (nI 0)), (2, .int (nI a2)), (1, .int (nI a1)), (0, .ref (Pa 0))] dX2_parseBlock_53 (by decide) rfl ?_
        refine z_aload_n C dX2_parseBlock_54 3 rfl ?_
        refine zx_ldc C hX 3 (by decide) rfl rfl dX2_parseBlock_55 ?_
        rcases hp3 : kyM 2 tx (nxT tx n (nxT tx n (nxT tx n T))) with _ | _
        · refine z_callVc C (cX_ok adK adV) hX (mX2_takeWord_Tn l D κ adK adV Pa Sa _ _ _ n _ 2 3 ct2 (by decide) kwP_2 hp3) gX2_parseBlock_X2_takeWord rfl rfl rfl hdX2_takeWord ⟨Nat.le_of_ble_eq_true rfl, Nat.le_of_ble_eq_true rfl⟩ 0 rfl rfl (SW κ Sa g ++ []) (fun _ => SW κ Sa g ++ (PW κ Pa Sa eo (rdV tx (rdV tx v)) tx ++ [])) zp_mid (fun _ => zp_mid) rfl (Nat.le_of_ble_eq_true rfl) dX2_parseBlock_57 ⟨Nat.zero_le _, Nat.zero_le _⟩ (fun _ _ => ?_)
          refine z_if_eq C 70 dX2_parseBlock_60 (by decide) (fun _ => ?_) (fun q => absurd (by decide) q)
          refine z_iload_n C dX2_parseBlock_70 0 rfl ?_
          refine z_iconst (v := (-1)) C dX2_parseBlock_71 (by decide) ?_
          refine z_icmp_ne C 77 dX2_parseBlock_72 (by decide) (fun _ => ?_) (fun q => absurd q (nI_neg1 (by omega)))
          refine z_aload_n C dX2_parseBlock_77 3 rfl ?_
          refine zq_get_result C hin2 k22 dX2_parseBlock_78 ?_
          refine z_iload_n C dX2_parseBlock_81 2 rfl ?_
          refine z_iload_n C dX2_parseBlock_82 1 rfl ?_
          refine z_iload_n C dX2_parseBlock_83 0 rfl ?_
          refine zc_callR C (mX4_addBlock l D κ Sa _ _ _ a1 a2 0 5 0 hr hv (by omega) rfl) gX2_parseBlock_X4_addBlock rfl rfl rfl hdX4_addBlock ⟨Nat.le_of_ble_eq_true rfl, Nat.le_of_ble_eq_true rfl⟩ rfl (Nat.le_of_ble_eq_true rfl) dX2_parseBlock_84 ⟨Nat.zero_le _, Nat.zero_le _⟩ (fun gb hgb => ?_)
          refine z_iconst (v := nI 1) C dX2_parseBlock_87 (by decide) ?_
          have hres : pBlock tx n σ T = .inr (layS σ a1 a2 5 0, nxT tx n (nxT tx n (nxT tx n T))) := by simp only [pBlock]; rw [if_neg (by omega), hp1, bdS_r, hp2, bdS_r, if_neg (by rw [hp3]; decide)] <;> rfl
          exact z_zret C hr9 hk (by decide) ((gb, eo, rdV tx (rdV tx v))) (congrArg (fun b : Bool => some (Value.int (nI b.toNat))) (okB_r hres)) (LnP_r hres ⟨hgb, ct2, rfl, rfl, rfl⟩) (List.Perm.of_eq rfl) dX2_parseBlock_88 (Nat.le_refl _) (Nat.le_refl _)
        · refine z_callVc C (cX_ok adK adV) hX (mX2_takeWord_Ty l D κ adK adV Pa Sa _ _ _ n _ 2 3 ct2 (by decide) kwP_2 hp3) gX2_parseBlock_X2_takeWord rfl rfl rfl hdX2_takeWord ⟨Nat.le_of_ble_eq_true rfl, Nat.le_of_ble_eq_true rfl⟩ 0 rfl rfl (SW κ Sa g ++ []) (fun _ => SW κ Sa g ++ (PW κ Pa Sa eo (rdV tx (rdV tx (rdV tx v))) tx ++ [])) zp_mid (fun _ => zp_mid) rfl (Nat.le_of_ble_eq_true rfl) dX2_parseBlock_57 ⟨Nat.zero_le _, Nat.zero_le _⟩ (fun _ _ => ?_)
          obtain ⟨ct3, hn93, hv13, hv23⟩ := CT_rd ct2 (CT_e1 ct2 hp3)
          refine z_if_eq C 70 dX2_parseBlock_60 (by decide) (fun q => absurd q (by decide)) (fun _ => ?_)
          refine z_aload_n C dX2_parseBlock_63 3 rfl ?_
          refine z_iconst (v := nI 1) C dX2_parseBlock_64 (by decide) ?_
          refine z_iconst (v := nI 5) C dX2_parseBlock_65 (by decide) ?_
          rcases hp4 : pNum tx 1 6 (nxT tx n (nxT tx n (nxT tx n (nxT tx n T)))) with ⟨c4, o4⟩ | a4
          · refine zq_call C (mX2_takeNumber_Ter l D κ Pa Sa _ _ _ n _ 1 (nI 5) 6 c4 o4 ct3 (by decide) (hh_lit (by decide) (by decide) rfl) hp4) gX2_parseBlock_X2_takeNumber rfl rfl rfl hdX2_takeNumber ⟨Nat.le_of_ble_eq_true rfl, Nat.le_of_ble_eq_true rfl⟩ rfl (Nat.le_of_ble_eq_true rfl) dX2_parseBlock_66 ⟨Nat.zero_le _, Nat.zero_le _⟩ ?_
            refine z_istore_n C [(3, .int (-1)), (2, .int (nI a2)), (1, .int (nI a1)), (0, .ref (Pa 0))] dX2_parseBlock_69 (by decide) rfl ?_
            refine z_iload_n C dX2_parseBlock_70 0 rfl ?_
            refine z_iconst (v := (-1)) C dX2_parseBlock_71 (by decide) ?_
            refine z_icmp_ne C 77 dX2_parseBlock_72 (by decide) (fun q => absurd rfl q) (fun _ => ?_)
            refine z_iconst (v := nI 0) C dX2_parseBlock_75 (by decide) ?_
            have hres : pBlock tx n σ T = .inl (c4, o4) := by simp only [pBlock]; rw [if_neg (by omega), hp1, bdS_r, hp2, bdS_r, if_pos hp3, hp4, bdS_l] <;> rfl
            exact z_zret C hr9 hk (by decide) ((g, nI o4, upN (rdV tx (rdV tx (rdV tx v))) 2 c4)) (congrArg (fun b : Bool => some (Value.int (nI b.toNat))) (okB_i hres)) (LnP_i hres ⟨rfl, rfl, rfl⟩) (List.Perm.of_eq rfl) dX2_parseBlock_76 (Nat.le_refl _) (Nat.le_refl _)
          · refine zq_call C (mX2_takeNumber_Tok l D κ Pa Sa _ _ _ n _ 1 (nI 5) 6 a4 ct3 (by decide) (hh_lit (by decide) (by decide) rfl) hp4) gX2_parseBlock_X2_takeNumber rfl rfl rfl hdX2_takeNumber ⟨Nat.le_of_ble_eq_true rfl, Nat.le_of_ble_eq_true rfl⟩ rfl (Nat.le_of_ble_eq_true rfl) dX2_parseBlock_66 ⟨Nat.zero_le _, Nat.zero_le _⟩ ?_
            have hlt4 := pNum_lt hp4
            have hge4 := pNum_ge hp4
            obtain ⟨ct4, hn94, hv14, hv24⟩ := CT_rd ct3 (CT_e2 ct3 hp4)
            refine z_istore_n C [(3, .int (nI a4)), (2, .int (nI a2)), (1, .int (nI a1)), (0, .ref (Pa 0))] dX2_parseBlock_69 (by decide) rfl ?_
            refine z_iload_n C dX2_parseBlock_70 0 rfl ?_
            refine z_iconst (v := (-1)) C dX2_parseBlock_71 (by decide) ?_
            refine z_icmp_ne C 77 dX2_parseBlock_72 (by decide) (fun _ => ?_) (fun q => absurd q (nI_neg1 (by omega)))
            refine z_aload_n C dX2_parseBlock_77 3 rfl ?_
            refine zq_get_result C hin2 k22 dX2_parseBlock_78 ?_
            refine z_iload_n C dX2_parseBlock_81 2 rfl ?_
            refine z_iload_n C dX2_parseBlock_82 1 rfl ?_
            refine z_iload_n C dX2_parseBlock_83 0 rfl ?_
            refine zc_callR C (mX4_addBlock l D κ Sa _ _ _ a1 a2 a4 a4 1 hr hv (by omega) rfl) gX2_parseBlock_X4_addBlock rfl rfl rfl hdX4_addBlock ⟨Nat.le_of_ble_eq_true rfl, Nat.le_of_ble_eq_true rfl⟩ rfl (Nat.le_of_ble_eq_true rfl) dX2_parseBlock_84 ⟨Nat.zero_le _, Nat.zero_le _⟩ (fun gb hgb => ?_)
            refine z_iconst (v := nI 1) C dX2_parseBlock_87 (by decide) ?_
            have hres : pBlock tx n σ T = .inr (layS σ a1 a2 a4 1, nxT tx n (nxT tx n (nxT tx n (nxT tx n (nxT tx n T))))) := by simp only [pBlock]; rw [if_neg (by omega), hp1, bdS_r, hp2, bdS_r, if_pos hp3, hp4, bdS_r] <;> rfl
            exact z_zret C hr9 hk (by decide) ((gb, eo, rdV tx (rdV tx (rdV tx (rdV tx v))))) (congrArg (fun b : Bool => some (Value.int (nI b.toNat))) (okB_r hres)) (LnP_r hres ⟨hgb, ct4, rfl, rfl, rfl⟩) (List.Perm.of_eq rfl) dX2_parseBlock_88 (Nat.le_refl _) (Nat.le_refl _)
  · refine z_aload_n C dX2_parseBlock_12 0 rfl ?_
    refine z_iconst (v := nI 4) C dX2_parseBlock_13 (by decide) ?_
    refine z_aload_n C dX2_parseBlock_14 0 rfl ?_
    refine zq_get_takenStart C hin2 (x := v 9) k125 dX2_parseBlock_15 rfl ?_
    refine zq_call C (mX2_fail l D κ Pa Sa _ _ _ 4 (v 9) ) gX2_parseBlock_X2_fail rfl rfl rfl hdX2_fail ⟨Nat.le_of_ble_eq_true rfl, Nat.le_of_ble_eq_true rfl⟩ rfl (Nat.le_of_ble_eq_true rfl) dX2_parseBlock_18 ⟨Nat.zero_le _, Nat.zero_le _⟩ ?_
    have hres : pBlock tx n σ T = .inl (4, T.2.1) := by simp only [pBlock]; rw [if_pos (by omega)]
    exact z_zret C hr9 hk (zb_nar (false)) ((g, nI (v 9), upN v 2 4)) (congrArg (fun b : Bool => some (Value.int (nI b.toNat))) (okB_i hres)) (LnP_i hres ⟨congrArg nI h9, rfl, rfl⟩) (List.Perm.of_eq rfl) dX2_parseBlock_21 (Nat.le_refl _) (Nat.le_refl _)
theorem hdX2_parseBlock : yX2_parseBlock.cls = RX2 ∧ yX2_parseBlock.cls ≠ "java/lang/invoke/MethodHandle" ∧ yX2_parseBlock.cls ≠ "java/lang/invoke/VarHandle" ∧ (parseMethodDescriptor yX2_parseBlock.desc).map (fun d => d.parameters.length) = some 0 := by decide +kernel
set_option maxRecDepth 100000 in
set_option maxHeartbeats 4000000 in
theorem mX2_parseTrain (l : Launch) (D : va_G) (κ : Nat → ClassId) (adK adV : Nat → Nat) (Pa Sa : Nat → Nat) (g : Nat → Nat → Nat) (eo : Int32) (v : Nat → Nat) (tx : Nat → Int32) (σ : Nat → Nat) (M : Nat) (n : Nat) (T : Tok) (hr : Rep g σ) (hv : Inv M σ) (ct : CT tx n v (nxT tx n T)) (h9 : v 9 = T.2.1) : qMc adK adV l yX2_parseTrain wsX2_parseTrain { frames := 3, cells := 0, slots := 0, locals := 70 } D κ Pa Sa [] g eo v tx (okB (pTrain tx n σ T)) (LnP tx n eo v (pTrain tx n σ T)) := by
  refine zMc_of (cc := cX2_parseTrain) (maxL := 4) (rt := (some .boolean)) [(0, .ref (Pa 0))] (by decide +kernel) rfl (Nat.le_of_ble_eq_true rfl) rfl ?_
  intro p e s m args below meth c A C hr9 hk hnm hX
  have C : zC p s m args c cX2_parseTrain 4 wsX2_parseTrain RX2 D (zTy κ) A := C
  have hin2 : ∀ w ∈ wsX20, w ∈ wsX2_parseTrain := fun w h => List.mem_cons_of_mem _ (List.mem_append_left _ (List.mem_append_right _ h))
  have hin4 : ∀ w ∈ wsX40, w ∈ wsX2_parseTrain := fun w h => List.mem_cons_of_mem _ (List.mem_append_right _ h)
  have k22 : Cond.fieldLink RX2 22 "PeatRailway$Parser" "result" "LPeatRailway$State;" ∈ wsX2_parseTrain := by decide +kernel
  have k134 : Cond.fieldLink RX2 134 "PeatRailway$State" "trainCount" "I" ∈ wsX2_parseTrain := by decide +kernel
  have k125 : Cond.fieldLink RX2 125 "PeatRailway$Parser" "takenStart" "I" ∈ wsX2_parseTrain := by decide +kernel
  have k108 : Cond.fieldLink RX2 108 "PeatRailway$State" "blockCount" "I" ∈ wsX2_parseTrain := by decide +kernel
  refine z_eq (ws' := SW κ Sa g ++ (PW κ Pa Sa eo v tx ++ [])) ?_ rfl rfl rfl rfl
  have hn1 := hv.n1
  have hn2 := hv.n2
  refine z_aload_n C dX2_parseTrain_0 0 rfl ?_
  refine zq_get_result C hin2 k22 dX2_parseTrain_1 ?_
  refine zs_get_trainCount C hin4 (x := σ 2) k134 dX2_parseTrain_4 hr.1.s2 ?_
  refine z_iconst (v := nI 5) C dX2_parseTrain_7 (by decide) ?_
  refine zn_icmp_lt C 21 dX2_parseTrain_8 (by decide) (by omega) (by omega) (fun h1 => ?_) (fun h2 => ?_)
  · refine z_aload_n C dX2_parseTrain_21 0 rfl ?_
    refine z_iconst (v := nI 0) C dX2_parseTrain_22 (by decide) ?_
    refine z_aload_n C dX2_parseTrain_23 0 rfl ?_
    refine zq_get_result C hin2 k22 dX2_parseTrain_24 ?_
    refine zs_get_blockCount C hin4 (x := σ 1) k108 dX2_parseTrain_27 hr.1.s1 ?_
    refine z_iconst (v := nI 1) C dX2_parseTrain_30 (by decide) ?_
    refine z_isub C dX2_parseTrain_31 ?_
    rcases hp1 : pNum tx 0 (σ 1) (nxT tx n T) with ⟨c1, o1⟩ | a1
    · refine zq_call C (mX2_takeNumber_Ter l D κ Pa Sa _ _ _ n _ 0 (nI (σ 1) - nI 1) (σ 1) c1 o1 ct (by decide) (hh_blk hn1) hp1) gX2_parseTrain_X2_takeNumber rfl rfl rfl hdX2_takeNumber ⟨Nat.le_of_ble_eq_true rfl, Nat.le_of_ble_eq_true rfl⟩ rfl (Nat.le_of_ble_eq_true rfl) dX2_parseTrain_32 ⟨Nat.zero_le _, Nat.zero_le _⟩ ?_
      refine z_istore_n C [(1, .int (-1)), (0, .ref (Pa 0))] dX2_parseTrain_35 (by decide) rfl ?_
      refine z_iload_n C dX2_parseTrain_36 0 rfl ?_
      refine z_iconst (v := (-1)) C dX2_parseTrain_37 (by decide) ?_
      refine z_icmp_ne C 43 dX2_parseTrain_38 (by decide) (fun q => absurd rfl q) (fun _ => ?_)
      refine z_iconst (v := nI 0) C dX2_parseTrain_41 (by decide) ?_
      have hres : pTrain tx n σ T = .inl (c1, o1) := by simp only [pTrain]; rw [if_neg (by omega), hp1, bdS_l] <;> rfl
      exact z_zret C hr9 hk (by decide) ((g, nI o1, upN v 2 c1)) (congrArg (fun b : Bool => some (Value.int (nI b.toNat))) (okB_i hres)) (LnP_i hres ⟨rfl, rfl, rfl⟩) (List.Perm.of_eq rfl) dX2_parseTrain_42 (Nat.le_refl _) (Nat.le_refl _)
    · refine zq_call C (mX2_takeNumber_Tok l D κ Pa Sa _ _ _ n _ 0 (nI (σ 1) - nI 1) (σ 1) a1 ct (by decide) (hh_blk hn1) hp1) gX2_parseTrain_X2_takeNumber rfl rfl rfl hdX2_takeNumber ⟨Nat.le_of_ble_eq_true rfl, Nat.le_of_ble_eq_true rfl⟩ rfl (Nat.le_of_ble_eq_true rfl) dX2_parseTrain_32 ⟨Nat.zero_le _, Nat.zero_le _⟩ ?_
      have hlt1 := pNum_lt hp1
      have hge1 := pNum_ge hp1
      obtain ⟨ct1, hn91, hv11, hv21⟩ := CT_rd ct (CT_e2 ct hp1)
      refine z_istore_n C [(1, .int (nI a1)), (0, .ref (Pa 0))] dX2_parseTrain_35 (by decide) rfl ?_
      refine z_iload_n C dX2_parseTrain_36 0 rfl ?_
      refine z_iconst (v := (-1)) C dX2_parseTrain_37 (by decide) ?_
      refine z_icmp_ne C 43 dX2_parseTrain_38 (by decide) (fun _ => ?_) (fun q => absurd q (nI_neg1 (by omega)))
      refine z_aload_n C dX2_parseTrain_43 1 rfl ?_
      refine zq_get_result C hin2 k22 dX2_parseTrain_44 ?_
      refine z_iload_n C dX2_parseTrain_47 0 rfl ?_
      refine zc_call C (mX4_occupied l D κ Sa _ _ _ a1 hr hv (by omega)) gX2_parseTrain_X4_occupied rfl rfl rfl hdX4_occupied ⟨Nat.le_of_ble_eq_true rfl, Nat.le_of_ble_eq_true rfl⟩ rfl (Nat.le_of_ble_eq_true rfl) dX2_parseTrain_48 ⟨Nat.zero_le _, Nat.zero_le _⟩ ?_
      refine zb_if_eq C 64 dX2_parseTrain_51 (by decide) (fun h3 => ?_) (fun h4 => ?_)
      · refine z_aload_n C dX2_parseTrain_64 1 rfl ?_
        refine z_iconst (v := nI 1) C dX2_parseTrain_65 (by decide) ?_
        refine z_bipush (v := nI 12) C dX2_parseTrain_66 (by decide) ?_
        rcases hp2 : pNum tx 1 13 (nxT tx n (nxT tx n T)) with ⟨c2, o2⟩ | a2
        · refine zq_call C (mX2_takeNumber_Ter l D κ Pa Sa _ _ _ n _ 1 (nI 12) 13 c2 o2 ct1 (by decide) (hh_lit (by decide) (by decide) rfl) hp2) gX2_parseTrain_X2_takeNumber rfl rfl rfl hdX2_takeNumber ⟨Nat.le_of_ble_eq_true rfl, Nat.le_of_ble_eq_true rfl⟩ rfl (Nat.le_of_ble_eq_true rfl) dX2_parseTrain_68 ⟨Nat.zero_le _, Nat.zero_le _⟩ ?_
          refine z_istore_n C [(2, .int (-1)), (1, .int (nI a1)), (0, .ref (Pa 0))] dX2_parseTrain_71 (by decide) rfl ?_
          refine z_iload_n C dX2_parseTrain_72 0 rfl ?_
          refine z_iconst (v := (-1)) C dX2_parseTrain_73 (by decide) ?_
          refine z_icmp_ne C 79 dX2_parseTrain_74 (by decide) (fun q => absurd rfl q) (fun _ => ?_)
          refine z_iconst (v := nI 0) C dX2_parseTrain_77 (by decide) ?_
          have hres : pTrain tx n σ T = .inl (c2, o2) := by simp only [pTrain]; rw [if_neg (by omega), hp1, bdS_r, if_neg (by rw [h3]; decide), hp2, bdS_l] <;> rfl
          exact z_zret C hr9 hk (by decide) ((g, nI o2, upN (rdV tx v) 2 c2)) (congrArg (fun b : Bool => some (Value.int (nI b.toNat))) (okB_i hres)) (LnP_i hres ⟨rfl, rfl, rfl⟩) (List.Perm.of_eq rfl) dX2_parseTrain_78 (Nat.le_refl _) (Nat.le_refl _)
        · refine zq_call C (mX2_takeNumber_Tok l D κ Pa Sa _ _ _ n _ 1 (nI 12) 13 a2 ct1 (by decide) (hh_lit (by decide) (by decide) rfl) hp2) gX2_parseTrain_X2_takeNumber rfl rfl rfl hdX2_takeNumber ⟨Nat.le_of_ble_eq_true rfl, Nat.le_of_ble_eq_true rfl⟩ rfl (Nat.le_of_ble_eq_true rfl) dX2_parseTrain_68 ⟨Nat.zero_le _, Nat.zero_le _⟩ ?_
          have hlt2 := pNum_lt hp2
          have hge2 := pNum_ge hp2
          obtain ⟨ct2, hn92, hv12, hv22⟩ := CT_rd ct1 (CT_e2 ct1 hp2)
          refine z_istore_n C [(2, .int (nI a2)), (1, .int (nI a1)), (0, .ref (Pa 0))] dX2_parseTrain_71 (by decide) rfl ?_
          refine z_iload_n C dX2_parseTrain_72 0 rfl ?_
          refine z_iconst (v := (-1)) C dX2_parseTrain_73 (by decide) ?_
          refine z_icmp_ne C 79 dX2_parseTrain_74 (by decide) (fun _ => ?_) (fun q => absurd q (nI_neg1 (by omega)))
          refine z_aload_n C dX2_parseTrain_79 2 rfl ?_
          refine z_iconst (v := nI 1) C dX2_parseTrain_80 (by decide) ?_
          refine z_iconst (v := nI 5) C dX2_parseTrain_81 (by decide) ?_
          rcases hp3 : pNum tx 1 6 (nxT tx n (nxT tx n (nxT tx n T))) with ⟨c3, o3⟩ | a3
          · refine zq_call C (mX2_takeNumber_Ter l D κ Pa Sa _ _ _ n _ 1 (nI 5) 6 c3 o3 ct2 (by decide) (hh_lit (by decide) (by decide) rfl) hp3) gX2_parseTrain_X2_takeNumber rfl rfl rfl hdX2_takeNumber ⟨Nat.le_of_ble_eq_true rfl, Nat.le_of_ble_eq_true rfl⟩ rfl (Nat.le_of_ble_eq_true rfl) dX2_parseTrain_82 ⟨Nat.zero_le _, Nat.zero_le _⟩ ?_
            refine z_istore_n C [(3, .int (-1)), (2, .int (nI a2)), (1, .int (nI a1)), (0, .ref (Pa 0))] dX2_parseTrain_85 (by decide) rfl ?_
            refine z_iload_n C dX2_parseTrain_86 0 rfl ?_
            refine z_iconst (v := (-1)) C dX2_parseTrain_87 (by decide) ?_
            refine z_icmp_ne C 93 dX2_parseTrain_88 (by decide) (fun q => absurd rfl q) (fun _ => ?_)
            refine z_iconst (v := nI 0) C dX2_parseTrain_91 (by decide) ?_
            have hres : pTrain tx n σ T = .inl (c3, o3) := by simp only [pTrain]; rw [if_neg (by omega), hp1, bdS_r, if_neg (by rw [h3]; decide), hp2, bdS_r, hp3, bdS_l] <;> rfl
            exact z_zret C hr9 hk (by decide) ((g, nI o3, upN (rdV tx (rdV tx v)) 2 c3)) (congrArg (fun b : Bool => some (Value.int (nI b.toNat))) (okB_i hres)) (LnP_i hres ⟨rfl, rfl, rfl⟩) (List.Perm.of_eq rfl) dX2_parseTrain_92 (Nat.le_refl _) (Nat.le_refl _)
          · refine zq_call C (mX2_takeNumber_Tok l D κ Pa Sa _ _ _ n _ 1 (nI 5) 6 a3 ct2 (by decide) (hh_lit (by decide) (by decide) rfl) hp3) gX2_parseTrain_X2_takeNumber rfl rfl rfl hdX2_takeNumber ⟨Nat.le_of_ble_eq_true rfl, Nat.le_of_ble_eq_true rfl⟩ rfl (Nat.le_of_ble_eq_true rfl) dX2_parseTrain_82 ⟨Nat.zero_le _, Nat.zero_le _⟩ ?_
            have hlt3 := pNum_lt hp3
            have hge3 := pNum_ge hp3
            obtain ⟨ct3, hn93, hv13, hv23⟩ := CT_rd ct2 (CT_e2 ct2 hp3)
            refine z_istore_n C [(3, .int (nI a3)), (2, .int (nI a2)), (1, .int (nI a1)), (0, .ref (Pa 0))] dX2_parseTrain_85 (by decide) rfl ?_
            refine z_iload_n C dX2_parseTrain_86 0 rfl ?_
            refine z_iconst (v := (-1)) C dX2_parseTrain_87 (by decide) ?_
            refine z_icmp_ne C 93 dX2_parseTrain_88 (by decide) (fun _ => ?_) (fun q => absurd q (nI_neg1 (by omega)))
            refine z_aload_n C dX2_parseTrain_93 3 rfl ?_
            refine zq_get_result C hin2 k22 dX2_parseTrain_94 ?_
            refine z_iload_n C dX2_parseTrain_97 2 rfl ?_
            refine z_iload_n C dX2_parseTrain_98 1 rfl ?_
            refine z_iload_n C dX2_parseTrain_99 0 rfl ?_
            refine zc_callR C (mX4_addTrain l D κ Sa _ _ _ a1 a2 a3 hr hv (by omega) (by omega) h3 (by omega) (by omega) (by omega) (by omega)) gX2_parseTrain_X4_addTrain rfl rfl rfl hdX4_addTrain ⟨Nat.le_of_ble_eq_true rfl, Nat.le_of_ble_eq_true rfl⟩ rfl (Nat.le_of_ble_eq_true rfl) dX2_parseTrain_100 ⟨Nat.zero_le _, Nat.zero_le _⟩ (fun gt hgt => ?_)
            refine z_iconst (v := nI 1) C dX2_parseTrain_103 (by decide) ?_
            have hres : pTrain tx n σ T = .inr (setS σ a1 a2 a3, nxT tx n (nxT tx n (nxT tx n (nxT tx n T)))) := by simp only [pTrain]; rw [if_neg (by omega), hp1, bdS_r, if_neg (by rw [h3]; decide), hp2, bdS_r, hp3, bdS_r] <;> rfl
            exact z_zret C hr9 hk (by decide) ((gt, eo, rdV tx (rdV tx (rdV tx v)))) (congrArg (fun b : Bool => some (Value.int (nI b.toNat))) (okB_r hres)) (LnP_r hres ⟨hgt, ct3, rfl, rfl, rfl⟩) (List.Perm.of_eq rfl) dX2_parseTrain_104 (Nat.le_refl _) (Nat.le_refl _)
      · refine z_aload_n C dX2_parseTrain_54 1 rfl ?_
        refine z_iconst (v := nI 3) C dX2_parseTrain_55 (by decide) ?_
        refine z_aload_n C dX2_parseTrain_56 1 rfl ?_
        refine zq_get_takenStart C hin2 (x := (rdV tx v) 9) k125 dX2_parseTrain_57 rfl ?_
        refine zq_call C (mX2_fail l D κ Pa Sa _ _ _ 3 ((rdV tx v) 9) ) gX2_parseTrain_X2_fail rfl rfl rfl hdX2_fail ⟨Nat.le_of_ble_eq_true rfl, Nat.le_of_ble_eq_true rfl⟩ rfl (Nat.le_of_ble_eq_true rfl) dX2_parseTrain_60 ⟨Nat.zero_le _, Nat.zero_le _⟩ ?_
        have hres : pTrain tx n σ T = .inl (3, (nxT tx n T).2.1) := by simp only [pTrain]; rw [if_neg (by omega), hp1, bdS_r, if_pos h4]
        exact z_zret C hr9 hk (zb_nar (false)) ((g, nI ((rdV tx v) 9), upN (rdV tx v) 2 3)) (congrArg (fun b : Bool => some (Value.int (nI b.toNat))) (okB_i hres)) (LnP_i hres ⟨congrArg nI hn91, rfl, rfl⟩) (List.Perm.of_eq rfl) dX2_parseTrain_63 (Nat.le_refl _) (Nat.le_refl _)
  · refine z_aload_n C dX2_parseTrain_11 0 rfl ?_
    refine z_iconst (v := nI 4) C dX2_parseTrain_12 (by decide) ?_
    refine z_aload_n C dX2_parseTrain_13 0 rfl ?_
    refine zq_get_takenStart C hin2 (x := v 9) k125 dX2_parseTrain_14 rfl ?_
    refine zq_call C (mX2_fail l D κ Pa Sa _ _ _ 4 (v 9) ) gX2_parseTrain_X2_fail rfl rfl rfl hdX2_fail ⟨Nat.le_of_ble_eq_true rfl, Nat.le_of_ble_eq_true rfl⟩ rfl (Nat.le_of_ble_eq_true rfl) dX2_parseTrain_17 ⟨Nat.zero_le _, Nat.zero_le _⟩ ?_
    have hres : pTrain tx n σ T = .inl (4, T.2.1) := by simp only [pTrain]; rw [if_pos (by omega)]
    exact z_zret C hr9 hk (zb_nar (false)) ((g, nI (v 9), upN v 2 4)) (congrArg (fun b : Bool => some (Value.int (nI b.toNat))) (okB_i hres)) (LnP_i hres ⟨congrArg nI h9, rfl, rfl⟩) (List.Perm.of_eq rfl) dX2_parseTrain_20 (Nat.le_refl _) (Nat.le_refl _)
theorem hdX2_parseTrain : yX2_parseTrain.cls = RX2 ∧ yX2_parseTrain.cls ≠ "java/lang/invoke/MethodHandle" ∧ yX2_parseTrain.cls ≠ "java/lang/invoke/VarHandle" ∧ (parseMethodDescriptor yX2_parseTrain.desc).map (fun d => d.parameters.length) = some 0 := by decide +kernel
end Q6
