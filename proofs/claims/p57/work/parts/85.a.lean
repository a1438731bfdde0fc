section LA
theorem wtT_le {M : Nat} {σ : Nat → Nat} {t : Nat} (_ : Inv M σ) (_ : M + 11 * 200 < 1073741824) (_ : t < σ 2) : wtT σ t ≤ 202 := by
  obtain ⟨k, k1, k2, k3, k4⟩ := wtL_q t (σ (65 + 5 * t + 4)) 200 σ 0
  have e : wtR σ t = (psS k σ, k) := by
    show wtL _ t 200 σ 0 = _
    rw [k2, Nat.zero_add]
  simp only [wtT, e]
  split <;> omega
/-- one act: something changed, all is kept -/
def ActP (M T : Nat) (u : (Nat → Nat → Nat) × Nat × Nat × (Nat → Nat → Nat → Nat) × (Nat → Nat → Nat) × (Nat → Int32)) : Prop := 1 ≤ u.2.2.1 ∧ HJ M T u.2.1 u.2.2.1 u.2.2.2.1 ∧ ∃ σ, Rep u.1 σ ∧ Good M T σ
set_option maxRecDepth 100000 in
set_option maxHeartbeats 16000000 in
theorem mL_act (l : Launch) (D : va_G) (κ : Nat → ClassId) (adK adV : Nat → Nat) (Sf Sa Ha : Nat → Nat) (Hs : Nat → Nat → Nat) (hf : Nat → Option Nat) (ra a9 b9 p9 o9 rr : Nat) (f g : Nat → Nat → Nat) (nx ct : Nat) (gh : Nat → Nat → Nat → Nat) (ρ : Nat → Int32) (σ : Nat → Nat) (M T : Nat) (hls : l.stackTraces = false) (hr : Rep g σ) (hg0 : Good M T σ) (hj0 : HJ M T nx ct gh) (hhf : ∀ j, j < 10 → hf j = some (Hs j 0)) (hM : M + 3000 < 1073741824) (hT : T ≤ 9000) : zMc (aX adK adV) l yL_act wsL_act { frames := 9, cells := 4, slots := 24, locals := 149 } D (zTy κ) [.ref (ra), .ref (rr)] (SW κ Sf f ++ (kW κ Sa Ha Hs hf ra (Sf 0) a9 b9 p9 o9 g nx ct gh ++ RAW κ rr ρ)) (S := (Nat → Nat → Nat) × Nat × Nat × (Nat → Nat → Nat → Nat) × (Nat → Nat → Nat) × (Nat → Int32)) (fun u => some (.int (nI 1))) (fun u => ActP (M + 200) (T + 12) u) (fun u => SW κ Sf u.2.2.2.2.1 ++ (kW κ Sa Ha Hs hf ra (Sf 0) a9 b9 p9 o9 u.1 u.2.1 u.2.2.1 u.2.2.2.1 ++ RAW κ rr u.2.2.2.2.2)) 4 24 := by
  refine zMc_of (cc := cL_act) (maxL := 25) (rt := (some .boolean)) [(0, .ref (ra)), (1, .ref (rr))] (by decide +kernel) rfl (Nat.le_of_ble_eq_true rfl) rfl ?_
  intro p e s m args below meth c A C hr9 hk hnm hX
  have C : zC p s m args c cL_act 25 wsL_act RL D (zTy κ) A := C
  have hv := hg0.1
  have hn1 := hv.n1
  have hn2 := hv.n2
  have h0 := hg0.2.2.1
  have hb1 := hg0.2.2.2
  refine z_aload_n C dL_act_0 0 rfl ?_
  refine z_callV C (mX5_blockCount l D κ Sa g ra (Sf 0) (Ha 0) a9 b9 p9 o9 σ M  hr hv) gL_act_X5_blockCount rfl rfl rfl hdX5_blockCount ⟨(Nat.le_of_ble_eq_true rfl), (Nat.le_of_ble_eq_true rfl)⟩ 13 rfl rfl (SW κ Sf f ++ ((HO κ Ha hf nx ct ++ hW κ Hs gh 10) ++ RAW κ rr ρ)) (fun _ => SW κ Sf f ++ (kW κ Sa Ha Hs hf ra (Sf 0) a9 b9 p9 o9 g nx ct gh ++ RAW κ rr ρ)) (pmA_r) (fun _ => pmA_r.symm) rfl (Nat.le_of_ble_eq_true rfl) dL_act_1 ⟨Nat.le_of_ble_eq_true rfl, Nat.le_of_ble_eq_true rfl⟩ (fun _ _ => ?_)
  refine z_istore_n C [(2, .int (nI (σ 1))), (0, .ref (ra)), (1, .ref (rr))] dL_act_4 (by decide) rfl ?_
  refine z_aload_n C dL_act_5 1 rfl ?_
  refine z_callV C (mX5_trainCount l D κ Sa g ra (Sf 0) (Ha 0) a9 b9 p9 o9 σ M  hr hv) gL_act_X5_trainCount rfl rfl rfl hdX5_trainCount ⟨(Nat.le_of_ble_eq_true rfl), (Nat.le_of_ble_eq_true rfl)⟩ 13 rfl rfl (SW κ Sf f ++ ((HO κ Ha hf nx ct ++ hW κ Hs gh 10) ++ RAW κ rr ρ)) (fun _ => SW κ Sf f ++ (kW κ Sa Ha Hs hf ra (Sf 0) a9 b9 p9 o9 g nx ct gh ++ RAW κ rr ρ)) (pmA_r) (fun _ => pmA_r.symm) rfl (Nat.le_of_ble_eq_true rfl) dL_act_6 ⟨Nat.le_of_ble_eq_true rfl, Nat.le_of_ble_eq_true rfl⟩ (fun _ _ => ?_)
  refine z_istore_n C [(3, .int (nI (σ 2))), (2, .int (nI (σ 1))), (0, .ref (ra)), (1, .ref (rr))] dL_act_9 (by decide) rfl ?_
  refine z_iload_n C dL_act_10 1 rfl ?_
  refine zn_if_ne C 18 dL_act_11 (by decide) (by omega) (fun _ => ?_) (fun _ => by exfalso; omega)
  refine z_aload_n C dL_act_18 3 rfl ?_
  refine z_callS C (mL_next l D κ rr ρ) gL_act_L_next rfl rfl rfl hdL_next ⟨(Nat.le_of_ble_eq_true rfl), (Nat.le_of_ble_eq_true rfl)⟩ (SW κ Sf f ++ kW κ Sa Ha Hs hf ra (Sf 0) a9 b9 p9 o9 g nx ct gh) (fun u => SW κ Sf f ++ (kW κ Sa Ha Hs hf ra (Sf 0) a9 b9 p9 o9 g nx ct gh ++ RAW κ rr (u.2))) pmA_q (fun _ => pmA_q.symm) rfl (Nat.le_of_ble_eq_true rfl) dL_act_19 ⟨Nat.le_of_ble_eq_true rfl, Nat.le_of_ble_eq_true rfl⟩ (fun dr1 hdr1 => ?_)
  refine z_iload_n C dL_act_22 1 rfl ?_
  have hm23 := Nat.mod_lt (dr1.1) (show 0 < σ 1 by omega)
  refine zn_irem C dL_act_23 (by omega) (by omega) (by omega) ?_
  refine z_istore C [(4, .int (nI ((dr1.1) % (σ 1)))), (3, .int (nI (σ 2))), (2, .int (nI (σ 1))), (0, .ref (ra)), (1, .ref (rr))] dL_act_24 (by decide) rfl ?_
  refine z_cut (α := Nat × (Nat → Int32)) (fun x9 => (σ 2 = 0 → x9.1 = 0) ∧ (0 < σ 2 → x9.1 < σ 2)) (fun x9 => SW κ Sf f ++ (kW κ Sa Ha Hs hf ra (Sf 0) a9 b9 p9 o9 g nx ct gh ++ RAW κ rr (x9.2))) (fun x9 => [(4, .int (nI ((dr1.1) % (σ 1)))), (3, .int (nI (σ 2))), (2, .int (nI (σ 1))), (0, .ref (ra)), (1, .ref (rr))]) (fun x9 => [.int (nI (x9.1))]) 40 (fun x9 hx40 => ?_) (fun cut40 => ?_)
  · have hx9 : x9.1 < 5 := by omega
    refine z_istore C [(5, .int (nI (x9.1))), (4, .int (nI ((dr1.1) % (σ 1)))), (3, .int (nI (σ 2))), (2, .int (nI (σ 1))), (0, .ref (ra)), (1, .ref (rr))] dL_act_40 (by decide) rfl ?_
    have hblk := hv.blk (c := ((dr1.1) % (σ 1))) (by omega)
    have hrs4 := rsn_le σ ((dr1.1) % (σ 1))
    have htr5 := hv.tr ((dr1.1) % (σ 1))
    have hbd := hv.bd
    refine z_aload_n C dL_act_42 5 rfl ?_
    refine z_callS C (mL_next l D κ rr (x9.2)) gL_act_L_next rfl rfl rfl hdL_next ⟨(Nat.le_of_ble_eq_true rfl), (Nat.le_of_ble_eq_true rfl)⟩ (SW κ Sf f ++ kW κ Sa Ha Hs hf ra (Sf 0) a9 b9 p9 o9 g nx ct gh) (fun u => SW κ Sf f ++ (kW κ Sa Ha Hs hf ra (Sf 0) a9 b9 p9 o9 g nx ct gh ++ RAW κ rr (u.2))) pmA_q (fun _ => pmA_q.symm) rfl (Nat.le_of_ble_eq_true rfl) dL_act_43 ⟨Nat.le_of_ble_eq_true rfl, Nat.le_of_ble_eq_true rfl⟩ (fun dr2 hdr2 => ?_)
    refine z_bipush (v := nI 10) C dL_act_46 (by decide) ?_
    refine zn_irem C dL_act_48 (by omega) (by omega) (by omega) ?_
    have hsw : (dr2.1) % 10 < 10 := Nat.mod_lt _ (by decide)
    refine z_cut (α := Unit) (fun _ => True) (fun _ => SW κ Sf f ++ (kW κ Sa Ha Hs hf ra (Sf 0) a9 b9 p9 o9 g nx ct gh ++ RAW κ rr (dr2.2))) (fun _ => [(5, .int (nI (x9.1))), (4, .int (nI ((dr1.1) % (σ 1)))), (3, .int (nI (σ 2))), (2, .int (nI (σ 1))), (0, .ref (ra)), (1, .ref (rr))]) (fun _ => []) 100 (fun _ _ => ?_) (fun cut100 => ?_)
    · refine z_iconst (v := nI 1) C dL_act_100 (by decide) ?_
      refine z_aload_n C dL_act_101 5 rfl ?_
      refine z_callS C (mL_next l D κ rr (dr2.2)) gL_act_L_next rfl rfl rfl hdL_next ⟨(Nat.le_of_ble_eq_true rfl), (Nat.le_of_ble_eq_true rfl)⟩ (SW κ Sf f ++ kW κ Sa Ha Hs hf ra (Sf 0) a9 b9 p9 o9 g nx ct gh) (fun u => SW κ Sf f ++ (kW κ Sa Ha Hs hf ra (Sf 0) a9 b9 p9 o9 g nx ct gh ++ RAW κ rr (u.2))) pmA_q (fun _ => pmA_q.symm) rfl (Nat.le_of_ble_eq_true rfl) dL_act_102 ⟨Nat.le_of_ble_eq_true rfl, Nat.le_of_ble_eq_true rfl⟩ (fun dr3 hdr3 => ?_)
      refine z_bipush (v := nI 12) C dL_act_105 (by decide) ?_
      refine zn_irem C dL_act_107 (by omega) (by omega) (by omega) ?_
      refine zn_iadd C dL_act_108 ?_
      generalize hq109 : 1 + ((dr3.1) % 12) = nt
      have hb109 : 1 ≤ nt ∧ nt ≤ 12 := by omega
      refine z_istore C [(6, .int (nI nt)), (5, .int (nI (x9.1))), (4, .int (nI ((dr1.1) % (σ 1)))), (3, .int (nI (σ 2))), (2, .int (nI (σ 1))), (0, .ref (ra)), (1, .ref (rr))] dL_act_109 (by decide) rfl ?_
      rcases Nat.eq_zero_or_pos (σ 2) with hz | hz
      · refine z_iload_n C dL_act_111 3 rfl ?_
        refine zn_if_ne C 119 dL_act_112 (by decide) (by omega) (fun _ => by exfalso; omega) (fun _ => ?_)
        refine z_iconst (v := nI 0) C dL_act_115 (by decide) ?_
        refine z_goto (tgt := 127) C dL_act_116 (by decide) ?_
        refine z_istore C [(7, .int (nI 0)), (6, .int (nI nt)), (5, .int (nI (x9.1))), (4, .int (nI ((dr1.1) % (σ 1)))), (3, .int (nI (σ 2))), (2, .int (nI (σ 1))), (0, .ref (ra)), (1, .ref (rr))] dL_act_127 (by decide) rfl ?_
        refine z_iload_n C dL_act_129 4 rfl ?_
        refine zn_if_ne C 137 dL_act_130 (by decide) (by omega) (fun _ => by exfalso; omega) (fun _ => ?_)
        refine z_iconst (v := nI 0) C dL_act_133 (by decide) ?_
        refine z_goto (tgt := 143) C dL_act_134 (by decide) ?_
        refine z_istore C [(8, .int (nI 0)), (7, .int (nI 0)), (6, .int (nI nt)), (5, .int (nI (x9.1))), (4, .int (nI ((dr1.1) % (σ 1)))), (3, .int (nI (σ 2))), (2, .int (nI (σ 1))), (0, .ref (ra)), (1, .ref (rr))] dL_act_143 (by decide) rfl ?_
        refine z_iload_n C dL_act_145 5 rfl ?_
        refine zn_if_ne C 153 dL_act_146 (by decide) (by omega) (fun _ => by exfalso; omega) (fun _ => ?_)
        refine z_iconst (v := nI 0) C dL_act_149 (by decide) ?_
        refine z_goto (tgt := 159) C dL_act_150 (by decide) ?_
        refine z_istore C [(9, .int (nI 0)), (8, .int (nI 0)), (7, .int (nI 0)), (6, .int (nI nt)), (5, .int (nI (x9.1))), (4, .int (nI ((dr1.1) % (σ 1)))), (3, .int (nI (σ 2))), (2, .int (nI (σ 1))), (0, .ref (ra)), (1, .ref (rr))] dL_act_159 (by decide) rfl ?_
        refine z_iconst (v := nI 0) C dL_act_161 (by decide) ?_
        refine z_istore C [(10, .int (nI 0)), (9, .int (nI 0)), (8, .int (nI 0)), (7, .int (nI 0)), (6, .int (nI nt)), (5, .int (nI (x9.1))), (4, .int (nI ((dr1.1) % (σ 1)))), (3, .int (nI (σ 2))), (2, .int (nI (σ 1))), (0, .ref (ra)), (1, .ref (rr))] dL_act_162 (by decide) rfl ?_
        refine z_iconst (v := nI 0) C dL_act_164 (by decide) ?_
        refine z_istore C [(11, .int (nI 0)), (10, .int (nI 0)), (9, .int (nI 0)), (8, .int (nI 0)), (7, .int (nI 0)), (6, .int (nI nt)), (5, .int (nI (x9.1))), (4, .int (nI ((dr1.1) % (σ 1)))), (3, .int (nI (σ 2))), (2, .int (nI (σ 1))), (0, .ref (ra)), (1, .ref (rr))] dL_act_165 (by decide) rfl ?_
        refine z_lv [0, 1, 2, 3, 4, 5, 6, 7, 8, 9, 10, 11] rfl ?_
        refine z_loop (σ := Nat) (fun k => SW κ Sf f ++ (kW κ Sa Ha Hs hf ra (Sf 0) a9 b9 p9 o9 g nx ct gh ++ RAW κ rr (dr3.2))) (fun k => [(11, .int (nI k)), (10, .int (nI (sumL (fun b => sumL (fun t => σ (90 + 10 * t + b)) (σ 2)) k))), (9, .int (nI 0)), (8, .int (nI 0)), (7, .int (nI 0)), (6, .int (nI nt)), (5, .int (nI (x9.1))), (4, .int (nI ((dr1.1) % (σ 1)))), (3, .int (nI (σ 2))), (2, .int (nI (σ 1))), (0, .ref (ra)), (1, .ref (rr))]) (fun k => k ≤ σ 1) (fun k => σ 1 - k) (0) (Nat.zero_le _) rfl rfl ?_
        rintro k hI167 ih167
        refine z_iload C dL_act_167 0 rfl ?_
        refine z_iload_n C dL_act_169 9 rfl ?_
        refine zn_icmp_ge C 190 dL_act_170 (by decide) (by omega) (by omega) (fun h1 => ?_) (fun h2 => ?_)
        · obtain rfl : k = σ 1 := by omega
          refine z_aload_n C dL_act_190 10 rfl ?_
          refine z_iload C dL_act_191 5 rfl ?_
          refine zh_callS C (aX_ok adK adV) hX (mL_advanced_ok l D κ Sa Ha Hs hf ra (Sf 0) a9 b9 p9 o9 g nx ct gh σ M nt hr hv hhf hj0.1 hj0.2.1 (by omega) (by omega) (by omega) (by omega) adK adV) gL_act_L_advanced rfl rfl rfl hdL_advanced ⟨(Nat.le_of_ble_eq_true rfl), (Nat.le_of_ble_eq_true rfl)⟩ (SW κ Sf f ++ RAW κ rr (dr3.2)) (fun u => SW κ Sf f ++ (kW κ Sa Ha Hs hf ra (Sf 0) a9 b9 p9 o9 (u.2) (fwN nx) (mnN ct) (upS gh nx u.1) ++ RAW κ rr (dr3.2))) pmA_k (fun _ => pmA_k.symm) rfl (Nat.le_of_ble_eq_true rfl) dL_act_193 ⟨Nat.le_of_ble_eq_true rfl, Nat.le_of_ble_eq_true rfl⟩ (fun c1 hc1 => ?_)
          have hj1 := hj0.push hg0 hc1.1
          have hk1 := hj1.mo (show M ≤ M + 200 by omega) (by omega) (show T ≤ T + 12 by omega)
          have gd1 : Good (M + 200) (T + 12) (psS nt σ) := hg0.ps (by omega) (by omega)
          have hv1 := gd1.1
          have q11 : (psS nt σ) 1 = σ 1 := by first | exact psS_1 _ _ | (repeat rw [upN_n (by omega)])
          have q21 : (psS nt σ) 2 = σ 2 := by first | exact psS_2 _ _ | (repeat rw [upN_n (by omega)])
          have hbd1 := hv1.bd
          refine z_istore C [(11, .int (nI (psE nt σ))), (10, .int (nI (sumL (fun b => sumL (fun t => σ (90 + 10 * t + b)) (σ 2)) (σ 1)))), (9, .int (nI 0)), (8, .int (nI 0)), (7, .int (nI 0)), (6, .int (nI nt)), (5, .int (nI (x9.1))), (4, .int (nI ((dr1.1) % (σ 1)))), (3, .int (nI (σ 2))), (2, .int (nI (σ 1))), (0, .ref (ra)), (1, .ref (rr))] dL_act_196 (by decide) rfl ?_
          have e91 := psS_1 nt σ
          have e92 := psS_2 nt σ
          refine z_eq (lv' := [(11, .int (nI (psE nt σ))), (10, .int (nI (sumL (fun b => sumL (fun t => σ (90 + 10 * t + b)) (σ 2)) (σ 1)) - nI (sumL (fun b => sumL (fun t => (psS nt σ) (90 + 10 * t + b)) ((psS nt σ) 2)) 0))), (9, .int (nI 0)), (8, .int (nI 0)), (7, .int (nI 0)), (6, .int (nI nt)), (5, .int (nI (x9.1))), (4, .int (nI ((dr1.1) % (σ 1)))), (3, .int (nI (σ 2))), (2, .int (nI (σ 1))), (0, .ref (ra)), (1, .ref (rr))]) ?_ rfl (congrArg (fun y9 : Int32 => ([(11, .int (nI (psE nt σ))), (10, .int y9), (9, .int (nI 0)), (8, .int (nI 0)), (7, .int (nI 0)), (6, .int (nI nt)), (5, .int (nI (x9.1))), (4, .int (nI ((dr1.1) % (σ 1)))), (3, .int (nI (σ 2))), (2, .int (nI (σ 1))), (0, .ref (ra)), (1, .ref (rr))] : List (Nat × Value))) (show nI (sumL (fun b => sumL (fun t => σ (90 + 10 * t + b)) (σ 2)) (σ 1)) = nI (sumL (fun b => sumL (fun t => σ (90 + 10 * t + b)) (σ 2)) (σ 1)) - nI 0 from (Int32.sub_zero _).symm)) rfl rfl
          refine z_iconst (v := nI 0) C dL_act_198 (by decide) ?_
          refine z_istore C [(12, .int (nI 0)), (11, .int (nI (psE nt σ))), (10, .int (nI (sumL (fun b => sumL (fun t => σ (90 + 10 * t + b)) (σ 2)) (σ 1)) - nI (sumL (fun b => sumL (fun t => (psS nt σ) (90 + 10 * t + b)) ((psS nt σ) 2)) 0))), (9, .int (nI 0)), (8, .int (nI 0)), (7, .int (nI 0)), (6, .int (nI nt)), (5, .int (nI (x9.1))), (4, .int (nI ((dr1.1) % (σ 1)))), (3, .int (nI (σ 2))), (2, .int (nI (σ 1))), (0, .ref (ra)), (1, .ref (rr))] dL_act_199 (by decide) rfl ?_
          refine z_lv [0, 1, 2, 3, 4, 5, 6, 7, 8, 9, 10, 11, 12] rfl ?_
          refine z_loop (σ := Nat) (fun j => SW κ Sf f ++ (kW κ Sa Ha Hs hf ra (Sf 0) a9 b9 p9 o9 (c1.2) (fwN nx) (mnN ct) (upS gh nx c1.1) ++ RAW κ rr (dr3.2))) (fun j => [(12, .int (nI j)), (11, .int (nI (psE nt σ))), (10, .int (nI (sumL (fun b => sumL (fun t => σ (90 + 10 * t + b)) (σ 2)) (σ 1)) - nI (sumL (fun b => sumL (fun t => (psS nt σ) (90 + 10 * t + b)) ((psS nt σ) 2)) j))), (9, .int (nI 0)), (8, .int (nI 0)), (7, .int (nI 0)), (6, .int (nI nt)), (5, .int (nI (x9.1))), (4, .int (nI ((dr1.1) % (σ 1)))), (3, .int (nI (σ 2))), (2, .int (nI (σ 1))), (0, .ref (ra)), (1, .ref (rr))]) (fun j => j ≤ σ 1) (fun j => σ 1 - j) (0) (Nat.zero_le _) rfl rfl ?_
          rintro j hI201 ih201
          refine z_iload C dL_act_201 0 rfl ?_
          refine z_iload_n C dL_act_203 10 rfl ?_
          refine zn_icmp_ge C 224 dL_act_204 (by decide) (by omega) (by omega) (fun h3 => ?_) (fun h4 => ?_)
          · obtain rfl : j = σ 1 := by omega
            have e93 : PT (psS nt σ) = sumL (fun b => sumL (fun t => (psS nt σ) (90 + 10 * t + b)) ((psS nt σ) 2)) (σ 1) := by unfold PT; rw [e91]
            have e94 : nI (psE nt σ) = -(nI (sumL (fun b => sumL (fun t => σ (90 + 10 * t + b)) (σ 2)) (σ 1)) - nI (sumL (fun b => sumL (fun t => (psS nt σ) (90 + 10 * t + b)) ((psS nt σ) 2)) (σ 1))) := pair_eq (by rw [← e93]; exact (psS_q nt σ hv (by omega)).2.1)
            refine z_iload C dL_act_224 1 rfl ?_
            refine z_iload C dL_act_226 2 rfl ?_
            refine z_ineg C dL_act_228 ?_
            refine z_icmp_ne C 287 dL_act_229 (by decide) (fun q => absurd (e94) q) (fun _ => ?_)
            refine z_iload_n C dL_act_232 9 rfl ?_
            refine zn_if_eq C 283 dL_act_233 (by decide) (by omega) (fun _ => ?_) (fun _ => by exfalso; omega)
            refine z_iconst (v := nI 1) C dL_act_283 (by decide) ?_
            refine z_goto (tgt := 288) C dL_act_284 (by decide) ?_
            exact z_zret C hr9 hk (by decide) ((c1.2, fwN nx, mnN ct, upS gh nx c1.1, f, dr3.2)) (rfl) (⟨mnN_1, hk1, ⟨_, hc1.2, gd1⟩⟩) (List.Perm.refl _) dL_act_288 (Nat.le_of_ble_eq_true rfl) (Nat.le_of_ble_eq_true rfl)
          · refine z_iload C dL_act_207 2 rfl ?_
            refine z_aload_n C dL_act_209 11 rfl ?_
            refine z_iload C dL_act_210 0 rfl ?_
            refine z_callV C (mX5_departuresFrom_ok l D κ Sa (c1.2) ra (Sf 0) (Ha 0) a9 b9 p9 o9 (psS nt σ) (M + 200) j hc1.2 hv1 (by omega)) gL_act_X5_departuresFrom rfl rfl rfl hdX5_departuresFrom ⟨(Nat.le_of_ble_eq_true rfl), (Nat.le_of_ble_eq_true rfl)⟩ 13 rfl rfl (SW κ Sf f ++ ((HO κ Ha hf (fwN nx) (mnN ct) ++ hW κ Hs (upS gh nx c1.1) 10) ++ RAW κ rr (dr3.2))) (fun _ => SW κ Sf f ++ (kW κ Sa Ha Hs hf ra (Sf 0) a9 b9 p9 o9 (c1.2) (fwN nx) (mnN ct) (upS gh nx c1.1) ++ RAW κ rr (dr3.2))) (pmA_r) (fun _ => pmA_r.symm) rfl (Nat.le_of_ble_eq_true rfl) dL_act_212 ⟨Nat.le_of_ble_eq_true rfl, Nat.le_of_ble_eq_true rfl⟩ (fun _ _ => ?_)
            refine z_isub C dL_act_215 ?_
            rw [sub_sub']
            refine z_istore C [(10, .int (nI (sumL (fun b => sumL (fun t => σ (90 + 10 * t + b)) (σ 2)) (σ 1)) - nI (sumL (fun b => sumL (fun t => (psS nt σ) (90 + 10 * t + b)) ((psS nt σ) 2)) (j + 1)))), (12, .int (nI j)), (11, .int (nI (psE nt σ))), (9, .int (nI 0)), (8, .int (nI 0)), (7, .int (nI 0)), (6, .int (nI nt)), (5, .int (nI (x9.1))), (4, .int (nI ((dr1.1) % (σ 1)))), (3, .int (nI (σ 2))), (2, .int (nI (σ 1))), (0, .ref (ra)), (1, .ref (rr))] dL_act_216 (by decide) rfl ?_
            refine zn_iinc (n := 1) C [(12, .int (nI (j + 1))), (10, .int (nI (sumL (fun b => sumL (fun t => σ (90 + 10 * t + b)) (σ 2)) (σ 1)) - nI (sumL (fun b => sumL (fun t => (psS nt σ) (90 + 10 * t + b)) ((psS nt σ) 2)) (j + 1)))), (11, .int (nI (psE nt σ))), (9, .int (nI 0)), (8, .int (nI 0)), (7, .int (nI 0)), (6, .int (nI nt)), (5, .int (nI (x9.1))), (4, .int (nI ((dr1.1) % (σ 1)))), (3, .int (nI (σ 2))), (2, .int (nI (σ 1))), (0, .ref (ra)), (1, .ref (rr))] dL_act_218 1 rfl (by decide) rfl ?_
            refine z_goto (tgt := 201) C dL_act_221 (by decide) ?_
            refine z_lv [0, 2, 1, 3, 4, 5, 6, 7, 8, 9, 10, 11, 12] rfl ?_
            exact ih201 (j + 1) (by omega) (by omega)
        · refine z_iload C dL_act_173 1 rfl ?_
          refine z_aload_n C dL_act_175 10 rfl ?_
          refine z_iload C dL_act_176 0 rfl ?_
          refine z_callV C (mX5_departuresFrom_ok l D κ Sa g ra (Sf 0) (Ha 0) a9 b9 p9 o9 σ M k hr hv (by omega)) gL_act_X5_departuresFrom rfl rfl rfl hdX5_departuresFrom ⟨(Nat.le_of_ble_eq_true rfl), (Nat.le_of_ble_eq_true rfl)⟩ 13 rfl rfl (SW κ Sf f ++ ((HO κ Ha hf nx ct ++ hW κ Hs gh 10) ++ RAW κ rr (dr3.2))) (fun _ => SW κ Sf f ++ (kW κ Sa Ha Hs hf ra (Sf 0) a9 b9 p9 o9 g nx ct gh ++ RAW κ rr (dr3.2))) (pmA_r) (fun _ => pmA_r.symm) rfl (Nat.le_of_ble_eq_true rfl) dL_act_178 ⟨Nat.le_of_ble_eq_true rfl, Nat.le_of_ble_eq_true rfl⟩ (fun _ _ => ?_)
          refine zn_iadd C dL_act_181 ?_
          refine z_istore C [(10, .int (nI ((sumL (fun b => sumL (fun t => σ (90 + 10 * t + b)) (σ 2)) k) + (sumL (fun i => σ (90 + 10 * i + k)) (σ 2))))), (11, .int (nI k)), (9, .int (nI 0)), (8, .int (nI 0)), (7, .int (nI 0)), (6, .int (nI nt)), (5, .int (nI (x9.1))), (4, .int (nI ((dr1.1) % (σ 1)))), (3, .int (nI (σ 2))), (2, .int (nI (σ 1))), (0, .ref (ra)), (1, .ref (rr))] dL_act_182 (by decide) rfl ?_
          refine zn_iinc (n := 1) C [(11, .int (nI (k + 1))), (10, .int (nI ((sumL (fun b => sumL (fun t => σ (90 + 10 * t + b)) (σ 2)) k) + (sumL (fun i => σ (90 + 10 * i + k)) (σ 2))))), (9, .int (nI 0)), (8, .int (nI 0)), (7, .int (nI 0)), (6, .int (nI nt)), (5, .int (nI (x9.1))), (4, .int (nI ((dr1.1) % (σ 1)))), (3, .int (nI (σ 2))), (2, .int (nI (σ 1))), (0, .ref (ra)), (1, .ref (rr))] dL_act_184 1 rfl (by decide) rfl ?_
          refine z_goto (tgt := 167) C dL_act_187 (by decide) ?_
          refine z_lv [0, 1, 2, 3, 4, 5, 6, 7, 8, 9, 10, 11] rfl ?_
          exact ih167 (k + 1) (by omega) (by omega)
      · refine z_iload_n C dL_act_111 3 rfl ?_
        refine zn_if_ne C 119 dL_act_112 (by decide) (by omega) (fun _ => ?_) (fun _ => by exfalso; omega)
        refine z_aload_n C dL_act_119 5 rfl ?_
        refine z_iload C dL_act_120 1 rfl ?_
        refine z_iload C dL_act_122 0 rfl ?_
        refine z_callV C (mX5_blockAfter_ok l D κ Sf Sa f g ra (Ha 0) a9 b9 p9 o9 σ M (x9.1) nt hr hv (by omega) (by omega) (by omega)) gL_act_X5_blockAfter rfl rfl rfl hdX5_blockAfter ⟨(Nat.le_of_ble_eq_true rfl), (Nat.le_of_ble_eq_true rfl)⟩ 26 rfl rfl ((HO κ Ha hf nx ct ++ hW κ Hs gh 10) ++ RAW κ rr (dr3.2)) (fun u => SW κ Sf u ++ (kW κ Sa Ha Hs hf ra (Sf 0) a9 b9 p9 o9 g nx ct gh ++ RAW κ rr (dr3.2))) (pmA_f) (fun _ => pmA_f.symm) rfl (Nat.le_of_ble_eq_true rfl) dL_act_124 ⟨Nat.le_of_ble_eq_true rfl, Nat.le_of_ble_eq_true rfl⟩ (fun f1 _ => ?_)
        refine z_istore C [(7, .int (nI (psS nt σ (65 + 5 * (x9.1) + 2)))), (6, .int (nI nt)), (5, .int (nI (x9.1))), (4, .int (nI ((dr1.1) % (σ 1)))), (3, .int (nI (σ 2))), (2, .int (nI (σ 1))), (0, .ref (ra)), (1, .ref (rr))] dL_act_127 (by decide) rfl ?_
        refine z_iload_n C dL_act_129 4 rfl ?_
        refine zn_if_ne C 137 dL_act_130 (by decide) (by omega) (fun _ => ?_) (fun _ => by exfalso; omega)
        refine z_aload_n C dL_act_137 6 rfl ?_
        refine z_iload C dL_act_138 2 rfl ?_
        refine z_callV C (mX5_ticksUntilWait_ok l D κ Sf Sa f1 g ra (Ha 0) a9 b9 p9 o9 σ M (x9.1) hr hv (by omega) (by omega)) gL_act_X5_ticksUntilWait rfl rfl rfl hdX5_ticksUntilWait ⟨(Nat.le_of_ble_eq_true rfl), (Nat.le_of_ble_eq_true rfl)⟩ 26 rfl rfl ((HO κ Ha hf nx ct ++ hW κ Hs gh 10) ++ RAW κ rr (dr3.2)) (fun u => SW κ Sf u ++ (kW κ Sa Ha Hs hf ra (Sf 0) a9 b9 p9 o9 g nx ct gh ++ RAW κ rr (dr3.2))) (pmA_f) (fun _ => pmA_f.symm) rfl (Nat.le_of_ble_eq_true rfl) dL_act_140 ⟨Nat.le_of_ble_eq_true rfl, Nat.le_of_ble_eq_true rfl⟩ (fun f2 _ => ?_)
        refine z_istore C [(8, .int (tI (wtT σ (x9.1)))), (7, .int (nI (psS nt σ (65 + 5 * (x9.1) + 2)))), (6, .int (nI nt)), (5, .int (nI (x9.1))), (4, .int (nI ((dr1.1) % (σ 1)))), (3, .int (nI (σ 2))), (2, .int (nI (σ 1))), (0, .ref (ra)), (1, .ref (rr))] dL_act_143 (by decide) rfl ?_
        refine z_iload_n C dL_act_145 5 rfl ?_
        refine zn_if_ne C 153 dL_act_146 (by decide) (by omega) (fun _ => ?_) (fun _ => by exfalso; omega)
        refine z_aload_n C dL_act_153 7 rfl ?_
        refine z_iload C dL_act_154 3 rfl ?_
        refine z_callV C (mX5_waitsOf_ok l D κ Sa g ra (Sf 0) (Ha 0) a9 b9 p9 o9 σ M (x9.1) hr hv (by omega)) gL_act_X5_waitsOf rfl rfl rfl hdX5_waitsOf ⟨(Nat.le_of_ble_eq_true rfl), (Nat.le_of_ble_eq_true rfl)⟩ 13 rfl rfl (SW κ Sf f2 ++ ((HO κ Ha hf nx ct ++ hW κ Hs gh 10) ++ RAW κ rr (dr3.2))) (fun _ => SW κ Sf f2 ++ (kW κ Sa Ha Hs hf ra (Sf 0) a9 b9 p9 o9 g nx ct gh ++ RAW κ rr (dr3.2))) (pmA_r) (fun _ => pmA_r.symm) rfl (Nat.le_of_ble_eq_true rfl) dL_act_156 ⟨Nat.le_of_ble_eq_true rfl, Nat.le_of_ble_eq_true rfl⟩ (fun _ _ => ?_)
        refine z_istore C [(9, .int (nI (σ (65 + 5 * (x9.1) + 4)))), (8, .int (tI (wtT σ (x9.1)))), (7, .int (nI (psS nt σ (65 + 5 * (x9.1) + 2)))), (6, .int (nI nt)), (5, .int (nI (x9.1))), (4, .int (nI ((dr1.1) % (σ 1)))), (3, .int (nI (σ 2))), (2, .int (nI (σ 1))), (0, .ref (ra)), (1, .ref (rr))] dL_act_159 (by decide) rfl ?_
        refine z_iconst (v := nI 0) C dL_act_161 (by decide) ?_
        refine z_istore C [(10, .int (nI 0)), (9, .int (nI (σ (65 + 5 * (x9.1) + 4)))), (8, .int (tI (wtT σ (x9.1)))), (7, .int (nI (psS nt σ (65 + 5 * (x9.1) + 2)))), (6, .int (nI nt)), (5, .int (nI (x9.1))), (4, .int (nI ((dr1.1) % (σ 1)))), (3, .int (nI (σ 2))), (2, .int (nI (σ 1))), (0, .ref (ra)), (1, .ref (rr))] dL_act_162 (by decide) rfl ?_
        refine z_iconst (v := nI 0) C dL_act_164 (by decide) ?_
        refine z_istore C [(11, .int (nI 0)), (10, .int (nI 0)), (9, .int (nI (σ (65 + 5 * (x9.1) + 4)))), (8, .int (tI (wtT σ (x9.1)))), (7, .int (nI (psS nt σ (65 + 5 * (x9.1) + 2)))), (6, .int (nI nt)), (5, .int (nI (x9.1))), (4, .int (nI ((dr1.1) % (σ 1)))), (3, .int (nI (σ 2))), (2, .int (nI (σ 1))), (0, .ref (ra)), (1, .ref (rr))] dL_act_165 (by decide) rfl ?_
        refine z_lv [0, 1, 2, 3, 4, 5, 6, 7, 8, 9, 10, 11] rfl ?_
        refine z_loop (σ := Nat) (fun k => SW κ Sf f2 ++ (kW κ Sa Ha Hs hf ra (Sf 0) a9 b9 p9 o9 g nx ct gh ++ RAW κ rr (dr3.2))) (fun k => [(11, .int (nI k)), (10, .int (nI (sumL (fun b => sumL (fun t => σ (90 + 10 * t + b)) (σ 2)) k))), (9, .int (nI (σ (65 + 5 * (x9.1) + 4)))), (8, .int (tI (wtT σ (x9.1)))), (7, .int (nI (psS nt σ (65 + 5 * (x9.1) + 2)))), (6, .int (nI nt)), (5, .int (nI (x9.1))), (4, .int (nI ((dr1.1) % (σ 1)))), (3, .int (nI (σ 2))), (2, .int (nI (σ 1))), (0, .ref (ra)), (1, .ref (rr))]) (fun k => k ≤ σ 1) (fun k => σ 1 - k) (0) (Nat.zero_le _) rfl rfl ?_
        rintro k hI167 ih167
        refine z_iload C dL_act_167 0 rfl ?_
        refine z_iload_n C dL_act_169 9 rfl ?_
        refine zn_icmp_ge C 190 dL_act_170 (by decide) (by omega) (by omega) (fun h5 => ?_) (fun h6 => ?_)
        · obtain rfl : k = σ 1 := by omega
          refine z_aload_n C dL_act_190 10 rfl ?_
          refine z_iload C dL_act_191 5 rfl ?_
          refine zh_callS C (aX_ok adK adV) hX (mL_advanced_ok l D κ Sa Ha Hs hf ra (Sf 0) a9 b9 p9 o9 g nx ct gh σ M nt hr hv hhf hj0.1 hj0.2.1 (by omega) (by omega) (by omega) (by omega) adK adV) gL_act_L_advanced rfl rfl rfl hdL_advanced ⟨(Nat.le_of_ble_eq_true rfl), (Nat.le_of_ble_eq_true rfl)⟩ (SW κ Sf f2 ++ RAW κ rr (dr3.2)) (fun u => SW κ Sf f2 ++ (kW κ Sa Ha Hs hf ra (Sf 0) a9 b9 p9 o9 (u.2) (fwN nx) (mnN ct) (upS gh nx u.1) ++ RAW κ rr (dr3.2))) pmA_k (fun _ => pmA_k.symm) rfl (Nat.le_of_ble_eq_true rfl) dL_act_193 ⟨Nat.le_of_ble_eq_true rfl, Nat.le_of_ble_eq_true rfl⟩ (fun c1 hc1 => ?_)
          have hj1 := hj0.push hg0 hc1.1
          have hk1 := hj1.mo (show M ≤ M + 200 by omega) (by omega) (show T ≤ T + 12 by omega)
          have gd1 : Good (M + 200) (T + 12) (psS nt σ) := hg0.ps (by omega) (by omega)
          have hv1 := gd1.1
          have q11 : (psS nt σ) 1 = σ 1 := by first | exact psS_1 _ _ | (repeat rw [upN_n (by omega)])
          have q21 : (psS nt σ) 2 = σ 2 := by first | exact psS_2 _ _ | (repeat rw [upN_n (by omega)])
          have hbd1 := hv1.bd
          refine z_istore C [(11, .int (nI (psE nt σ))), (10, .int (nI (sumL (fun b => sumL (fun t => σ (90 + 10 * t + b)) (σ 2)) (σ 1)))), (9, .int (nI (σ (65 + 5 * (x9.1) + 4)))), (8, .int (tI (wtT σ (x9.1)))), (7, .int (nI (psS nt σ (65 + 5 * (x9.1) + 2)))), (6, .int (nI nt)), (5, .int (nI (x9.1))), (4, .int (nI ((dr1.1) % (σ 1)))), (3, .int (nI (σ 2))), (2, .int (nI (σ 1))), (0, .ref (ra)), (1, .ref (rr))] dL_act_196 (by decide) rfl ?_
          have e91 := psS_1 nt σ
          have e92 := psS_2 nt σ
          refine z_eq (lv' := [(11, .int (nI (psE nt σ))), (10, .int (nI (sumL (fun b => sumL (fun t => σ (90 + 10 * t + b)) (σ 2)) (σ 1)) - nI (sumL (fun b => sumL (fun t => (psS nt σ) (90 + 10 * t + b)) ((psS nt σ) 2)) 0))), (9, .int (nI (σ (65 + 5 * (x9.1) + 4)))), (8, .int (tI (wtT σ (x9.1)))), (7, .int (nI (psS nt σ (65 + 5 * (x9.1) + 2)))), (6, .int (nI nt)), (5, .int (nI (x9.1))), (4, .int (nI ((dr1.1) % (σ 1)))), (3, .int (nI (σ 2))), (2, .int (nI (σ 1))), (0, .ref (ra)), (1, .ref (rr))]) ?_ rfl (congrArg (fun y9 : Int32 => ([(11, .int (nI (psE nt σ))), (10, .int y9), (9, .int (nI (σ (65 + 5 * (x9.1) + 4)))), (8, .int (tI (wtT σ (x9.1)))), (7, .int (nI (psS nt σ (65 + 5 * (x9.1) + 2)))), (6, .int (nI nt)), (5, .int (nI (x9.1))), (4, .int (nI ((dr1.1) % (σ 1)))), (3, .int (nI (σ 2))), (2, .int (nI (σ 1))), (0, .ref (ra)), (1, .ref (rr))] : List (Nat × Value))) (show nI (sumL (fun b => sumL (fun t => σ (90 + 10 * t + b)) (σ 2)) (σ 1)) = nI (sumL (fun b => sumL (fun t => σ (90 + 10 * t + b)) (σ 2)) (σ 1)) - nI 0 from (Int32.sub_zero _).symm)) rfl rfl
          refine z_iconst (v := nI 0) C dL_act_198 (by decide) ?_
          refine z_istore C [(12, .int (nI 0)), (11, .int (nI (psE nt σ))), (10, .int (nI (sumL (fun b => sumL (fun t => σ (90 + 10 * t + b)) (σ 2)) (σ 1)) - nI (sumL (fun b => sumL (fun t => (psS nt σ) (90 + 10 * t + b)) ((psS nt σ) 2)) 0))), (9, .int (nI (σ (65 + 5 * (x9.1) + 4)))), (8, .int (tI (wtT σ (x9.1)))), (7, .int (nI (psS nt σ (65 + 5 * (x9.1) + 2)))), (6, .int (nI nt)), (5, .int (nI (x9.1))), (4, .int (nI ((dr1.1) % (σ 1)))), (3, .int (nI (σ 2))), (2, .int (nI (σ 1))), (0, .ref (ra)), (1, .ref (rr))] dL_act_199 (by decide) rfl ?_
          refine z_lv [0, 1, 2, 3, 4, 5, 6, 7, 8, 9, 10, 11, 12] rfl ?_
          refine z_loop (σ := Nat) (fun j => SW κ Sf f2 ++ (kW κ Sa Ha Hs hf ra (Sf 0) a9 b9 p9 o9 (c1.2) (fwN nx) (mnN ct) (upS gh nx c1.1) ++ RAW κ rr (dr3.2))) (fun j => [(12, .int (nI j)), (11, .int (nI (psE nt σ))), (10, .int (nI (sumL (fun b => sumL (fun t => σ (90 + 10 * t + b)) (σ 2)) (σ 1)) - nI (sumL (fun b => sumL (fun t => (psS nt σ) (90 + 10 * t + b)) ((psS nt σ) 2)) j))), (9, .int (nI (σ (65 + 5 * (x9.1) + 4)))), (8, .int (tI (wtT σ (x9.1)))), (7, .int (nI (psS nt σ (65 + 5 * (x9.1) + 2)))), (6, .int (nI nt)), (5, .int (nI (x9.1))), (4, .int (nI ((dr1.1) % (σ 1)))), (3, .int (nI (σ 2))), (2, .int (nI (σ 1))), (0, .ref (ra)), (1, .ref (rr))]) (fun j => j ≤ σ 1) (fun j => σ 1 - j) (0) (Nat.zero_le _) rfl rfl ?_
          rintro j hI201 ih201
          refine z_iload C dL_act_201 0 rfl ?_
          refine z_iload_n C dL_act_203 10 rfl ?_
          refine zn_icmp_ge C 224 dL_act_204 (by decide) (by omega) (by omega) (fun h7 => ?_) (fun h8 => ?_)
          · obtain rfl : j = σ 1 := by omega
            have e93 : PT (psS nt σ) = sumL (fun b => sumL (fun t => (psS nt σ) (90 + 10 * t + b)) ((psS nt σ) 2)) (σ 1) := by unfold PT; rw [e91]
            have e94 : nI (psE nt σ) = -(nI (sumL (fun b => sumL (fun t => σ (90 + 10 * t + b)) (σ 2)) (σ 1)) - nI (sumL (fun b => sumL (fun t => (psS nt σ) (90 + 10 * t + b)) ((psS nt σ) 2)) (σ 1))) := pair_eq (by rw [← e93]; exact (psS_q nt σ hv (by omega)).2.1)
            refine z_iload C dL_act_224 1 rfl ?_
            refine z_iload C dL_act_226 2 rfl ?_
            refine z_ineg C dL_act_228 ?_
            refine z_icmp_ne C 287 dL_act_229 (by decide) (fun q => absurd (e94) q) (fun _ => ?_)
            refine z_iload_n C dL_act_232 9 rfl ?_
            refine zn_if_eq C 283 dL_act_233 (by decide) (by omega) (fun _ => by exfalso; omega) (fun _ => ?_)
            refine z_aload_n C dL_act_236 11 rfl ?_
            refine z_iload C dL_act_237 7 rfl ?_
            refine z_callV C (mX5_blockOf_ok l D κ Sa (c1.2) ra (Sf 0) (Ha 0) a9 b9 p9 o9 (psS nt σ) (M + 200) (x9.1) hc1.2 hv1 (by omega)) gL_act_X5_blockOf rfl rfl rfl hdX5_blockOf ⟨(Nat.le_of_ble_eq_true rfl), (Nat.le_of_ble_eq_true rfl)⟩ 13 rfl rfl (SW κ Sf f2 ++ ((HO κ Ha hf (fwN nx) (mnN ct) ++ hW κ Hs (upS gh nx c1.1) 10) ++ RAW κ rr (dr3.2))) (fun _ => SW κ Sf f2 ++ (kW κ Sa Ha Hs hf ra (Sf 0) a9 b9 p9 o9 (c1.2) (fwN nx) (mnN ct) (upS gh nx c1.1) ++ RAW κ rr (dr3.2))) (pmA_r) (fun _ => pmA_r.symm) rfl (Nat.le_of_ble_eq_true rfl) dL_act_239 ⟨Nat.le_of_ble_eq_true rfl, Nat.le_of_ble_eq_true rfl⟩ (fun _ _ => ?_)
            refine z_iload C dL_act_242 5 rfl ?_
            refine z_icmp_ne C 287 dL_act_244 (by decide) (fun q => absurd (rfl) q) (fun _ => ?_)
            have hwq := wtT_q (n := nt) hv (by omega) (show (x9.1) < σ 2 by omega) (by omega)
            have hb41 := hv.bd (65 + 5 * (x9.1) + 4) (by omega) (by omega)
            have hb42 := hv1.bd (65 + 5 * (x9.1) + 4) (by omega) (by omega)
            by_cases hw : σ (65 + 5 * (x9.1) + 4) < psS nt σ (65 + 5 * (x9.1) + 4)
            · have hw2 := hwq.mp hw
              rw [tI_pos (show 0 < wtT σ (x9.1) by omega)]
              refine z_aload_n C dL_act_247 11 rfl ?_
              refine z_iload C dL_act_248 7 rfl ?_
              refine z_callV C (mX5_waitsOf_ok l D κ Sa (c1.2) ra (Sf 0) (Ha 0) a9 b9 p9 o9 (psS nt σ) (M + 200) (x9.1) hc1.2 hv1 (by omega)) gL_act_X5_waitsOf rfl rfl rfl hdX5_waitsOf ⟨(Nat.le_of_ble_eq_true rfl), (Nat.le_of_ble_eq_true rfl)⟩ 13 rfl rfl (SW κ Sf f2 ++ ((HO κ Ha hf (fwN nx) (mnN ct) ++ hW κ Hs (upS gh nx c1.1) 10) ++ RAW κ rr (dr3.2))) (fun _ => SW κ Sf f2 ++ (kW κ Sa Ha Hs hf ra (Sf 0) a9 b9 p9 o9 (c1.2) (fwN nx) (mnN ct) (upS gh nx c1.1) ++ RAW κ rr (dr3.2))) (pmA_r) (fun _ => pmA_r.symm) rfl (Nat.le_of_ble_eq_true rfl) dL_act_250 ⟨Nat.le_of_ble_eq_true rfl, Nat.le_of_ble_eq_true rfl⟩ (fun _ _ => ?_)
              refine z_iload C dL_act_253 3 rfl ?_
              refine zn_icmp_le C 262 dL_act_255 (by decide) (by omega) (by omega) (fun _ => by exfalso; omega) (fun _ => ?_)
              refine z_iconst (v := nI 1) C dL_act_258 (by decide) ?_
              refine z_goto (tgt := 263) C dL_act_259 (by decide) ?_
              refine z_iload C dL_act_263 4 rfl ?_
              refine zn_if_le C 279 dL_act_265 (by decide) (by omega) (fun _ => by exfalso; omega) (fun _ => ?_)
              refine z_iload C dL_act_268 4 rfl ?_
              refine z_iload C dL_act_270 6 rfl ?_
              refine zn_icmp_gt C 279 dL_act_272 (by decide) (by omega) (by omega) (fun _ => by exfalso; omega) (fun _ => ?_)
              refine z_iconst (v := nI 1) C dL_act_275 (by decide) ?_
              refine z_goto (tgt := 280) C dL_act_276 (by decide) ?_
              refine zn_icmp_ne C 287 dL_act_280 (by decide) (by decide) (by decide) (fun q => absurd q (by decide)) (fun _ => ?_)
              refine z_iconst (v := nI 1) C dL_act_283 (by decide) ?_
              refine z_goto (tgt := 288) C dL_act_284 (by decide) ?_
              exact z_zret C hr9 hk (by decide) ((c1.2, fwN nx, mnN ct, upS gh nx c1.1, f2, dr3.2)) (rfl) (⟨mnN_1, hk1, ⟨_, hc1.2, gd1⟩⟩) (List.Perm.refl _) dL_act_288 (Nat.le_of_ble_eq_true rfl) (Nat.le_of_ble_eq_true rfl)
            · have hw3 : ¬ (2 ≤ wtT σ (x9.1) ∧ wtT σ (x9.1) ≤ nt + 1) := fun z => hw (hwq.mpr z)
              have hw4 : wtT σ (x9.1) ≤ 202 := wtT_le hv (by omega) (by omega)
              rcases Nat.eq_zero_or_pos (wtT σ (x9.1)) with hw0 | hw0
              · rw [hw0, tI_0]
                refine z_aload_n C dL_act_247 11 rfl ?_
                refine z_iload C dL_act_248 7 rfl ?_
                refine z_callV C (mX5_waitsOf_ok l D κ Sa (c1.2) ra (Sf 0) (Ha 0) a9 b9 p9 o9 (psS nt σ) (M + 200) (x9.1) hc1.2 hv1 (by omega)) gL_act_X5_waitsOf rfl rfl rfl hdX5_waitsOf ⟨(Nat.le_of_ble_eq_true rfl), (Nat.le_of_ble_eq_true rfl)⟩ 13 rfl rfl (SW κ Sf f2 ++ ((HO κ Ha hf (fwN nx) (mnN ct) ++ hW κ Hs (upS gh nx c1.1) 10) ++ RAW κ rr (dr3.2))) (fun _ => SW κ Sf f2 ++ (kW κ Sa Ha Hs hf ra (Sf 0) a9 b9 p9 o9 (c1.2) (fwN nx) (mnN ct) (upS gh nx c1.1) ++ RAW κ rr (dr3.2))) (pmA_r) (fun _ => pmA_r.symm) rfl (Nat.le_of_ble_eq_true rfl) dL_act_250 ⟨Nat.le_of_ble_eq_true rfl, Nat.le_of_ble_eq_true rfl⟩ (fun _ _ => ?_)
                refine z_iload C dL_act_253 3 rfl ?_
                refine zn_icmp_le C 262 dL_act_255 (by decide) (by omega) (by omega) (fun _ => ?_) (fun _ => by exfalso; omega)
                refine z_iconst (v := nI 0) C dL_act_262 (by decide) ?_
                refine z_iload C dL_act_263 4 rfl ?_
                refine z_if_le C 279 dL_act_265 (by decide) (fun _ => ?_) (fun q => absurd (by decide) q)
                refine z_iconst (v := nI 0) C dL_act_279 (by decide) ?_
                refine zn_icmp_ne C 287 dL_act_280 (by decide) (by decide) (by decide) (fun q => absurd q (by decide)) (fun _ => ?_)
                refine z_iconst (v := nI 1) C dL_act_283 (by decide) ?_
                refine z_goto (tgt := 288) C dL_act_284 (by decide) ?_
                exact z_zret C hr9 hk (by decide) ((c1.2, fwN nx, mnN ct, upS gh nx c1.1, f2, dr3.2)) (rfl) (⟨mnN_1, hk1, ⟨_, hc1.2, gd1⟩⟩) (List.Perm.refl _) dL_act_288 (Nat.le_of_ble_eq_true rfl) (Nat.le_of_ble_eq_true rfl)
              · rw [tI_pos hw0]
                refine z_aload_n C dL_act_247 11 rfl ?_
                refine z_iload C dL_act_248 7 rfl ?_
                refine z_callV C (mX5_waitsOf_ok l D κ Sa (c1.2) ra (Sf 0) (Ha 0) a9 b9 p9 o9 (psS nt σ) (M + 200) (x9.1) hc1.2 hv1 (by omega)) gL_act_X5_waitsOf rfl rfl rfl hdX5_waitsOf ⟨(Nat.le_of_ble_eq_true rfl), (Nat.le_of_ble_eq_true rfl)⟩ 13 rfl rfl (SW κ Sf f2 ++ ((HO κ Ha hf (fwN nx) (mnN ct) ++ hW κ Hs (upS gh nx c1.1) 10) ++ RAW κ rr (dr3.2))) (fun _ => SW κ Sf f2 ++ (kW κ Sa Ha Hs hf ra (Sf 0) a9 b9 p9 o9 (c1.2) (fwN nx) (mnN ct) (upS gh nx c1.1) ++ RAW κ rr (dr3.2))) (pmA_r) (fun _ => pmA_r.symm) rfl (Nat.le_of_ble_eq_true rfl) dL_act_250 ⟨Nat.le_of_ble_eq_true rfl, Nat.le_of_ble_eq_true rfl⟩ (fun _ _ => ?_)
                refine z_iload C dL_act_253 3 rfl ?_
                refine zn_icmp_le C 262 dL_act_255 (by decide) (by omega) (by omega) (fun _ => ?_) (fun _ => by exfalso; omega)
                refine z_iconst (v := nI 0) C dL_act_262 (by decide) ?_
                refine z_iload C dL_act_263 4 rfl ?_
                refine zn_if_le C 279 dL_act_265 (by decide) (by omega) (fun h9 => ?_) (fun h10 => ?_)
                · refine z_iconst (v := nI 0) C dL_act_279 (by decide) ?_
                  refine zn_icmp_ne C 287 dL_act_280 (by decide) (by decide) (by decide) (fun q => absurd q (by decide)) (fun _ => ?_)
                  refine z_iconst (v := nI 1) C dL_act_283 (by decide) ?_
                  refine z_goto (tgt := 288) C dL_act_284 (by decide) ?_
                  exact z_zret C hr9 hk (by decide) ((c1.2, fwN nx, mnN ct, upS gh nx c1.1, f2, dr3.2)) (rfl) (⟨mnN_1, hk1, ⟨_, hc1.2, gd1⟩⟩) (List.Perm.refl _) dL_act_288 (Nat.le_of_ble_eq_true rfl) (Nat.le_of_ble_eq_true rfl)
                · refine z_iload C dL_act_268 4 rfl ?_
                  refine z_iload C dL_act_270 6 rfl ?_
                  refine zn_icmp_gt C 279 dL_act_272 (by decide) (by omega) (by omega) (fun _ => ?_) (fun _ => by exfalso; omega)
                  refine z_iconst (v := nI 0) C dL_act_279 (by decide) ?_
                  refine zn_icmp_ne C 287 dL_act_280 (by decide) (by decide) (by decide) (fun q => absurd q (by decide)) (fun _ => ?_)
                  refine z_iconst (v := nI 1) C dL_act_283 (by decide) ?_
                  refine z_goto (tgt := 288) C dL_act_284 (by decide) ?_
                  exact z_zret C hr9 hk (by decide) ((c1.2, fwN nx, mnN ct, upS gh nx c1.1, f2, dr3.2)) (rfl) (⟨mnN_1, hk1, ⟨_, hc1.2, gd1⟩⟩) (List.Perm.refl _) dL_act_288 (Nat.le_of_ble_eq_true rfl) (Nat.le_of_ble_eq_true rfl)
          · refine z_iload C dL_act_207 2 rfl ?_
            refine z_aload_n C dL_act_209 11 rfl ?_
            refine z_iload C dL_act_210 0 rfl ?_
            refine z_callV C (mX5_departuresFrom_ok l D κ Sa (c1.2) ra (Sf 0) (Ha 0) a9 b9 p9 o9 (psS nt σ) (M + 200) j hc1.2 hv1 (by omega)) gL_act_X5_departuresFrom rfl rfl rfl hdX5_departuresFrom ⟨(Nat.le_of_ble_eq_true rfl), (Nat.le_of_ble_eq_true rfl)⟩ 13 rfl rfl (SW κ Sf f2 ++ ((HO κ Ha hf (fwN nx) (mnN ct) ++ hW κ Hs (upS gh nx c1.1) 10) ++ RAW κ rr (dr3.2))) (fun _ => SW κ Sf f2 ++ (kW κ Sa Ha Hs hf ra (Sf 0) a9 b9 p9 o9 (c1.2) (fwN nx) (mnN ct) (upS gh nx c1.1) ++ RAW κ rr (dr3.2))) (pmA_r) (fun _ => pmA_r.symm) rfl (Nat.le_of_ble_eq_true rfl) dL_act_212 ⟨Nat.le_of_ble_eq_true rfl, Nat.le_of_ble_eq_true rfl⟩ (fun _ _ => ?_)
            refine z_isub C dL_act_215 ?_
            rw [sub_sub']
            refine z_istore C [(10, .int (nI (sumL (fun b => sumL (fun t => σ (90 + 10 * t + b)) (σ 2)) (σ 1)) - nI (sumL (fun b => sumL (fun t => (psS nt σ) (90 + 10 * t + b)) ((psS nt σ) 2)) (j + 1)))), (12, .int (nI j)), (11, .int (nI (psE nt σ))), (9, .int (nI (σ (65 + 5 * (x9.1) + 4)))), (8, .int (tI (wtT σ (x9.1)))), (7, .int (nI (psS nt σ (65 + 5 * (x9.1) + 2)))), (6, .int (nI nt)), (5, .int (nI (x9.1))), (4, .int (nI ((dr1.1) % (σ 1)))), (3, .int (nI (σ 2))), (2, .int (nI (σ 1))), (0, .ref (ra)), (1, .ref (rr))] dL_act_216 (by decide) rfl ?_
            refine zn_iinc (n := 1) C [(12, .int (nI (j + 1))), (10, .int (nI (sumL (fun b => sumL (fun t => σ (90 + 10 * t + b)) (σ 2)) (σ 1)) - nI (sumL (fun b => sumL (fun t => (psS nt σ) (90 + 10 * t + b)) ((psS nt σ) 2)) (j + 1)))), (11, .int (nI (psE nt σ))), (9, .int (nI (σ (65 + 5 * (x9.1) + 4)))), (8, .int (tI (wtT σ (x9.1)))), (7, .int (nI (psS nt σ (65 + 5 * (x9.1) + 2)))), (6, .int (nI nt)), (5, .int (nI (x9.1))), (4, .int (nI ((dr1.1) % (σ 1)))), (3, .int (nI (σ 2))), (2, .int (nI (σ 1))), (0, .ref (ra)), (1, .ref (rr))] dL_act_218 1 rfl (by decide) rfl ?_
            refine z_goto (tgt := 201) C dL_act_221 (by decide) ?_
            refine z_lv [0, 2, 1, 3, 4, 5, 6, 7, 8, 9, 10, 11, 12] rfl ?_
            exact ih201 (j + 1) (by omega) (by omega)
        · refine z_iload C dL_act_173 1 rfl ?_
          refine z_aload_n C dL_act_175 10 rfl ?_
          refine z_iload C dL_act_176 0 rfl ?_
          refine z_callV C (mX5_departuresFrom_ok l D κ Sa g ra (Sf 0) (Ha 0) a9 b9 p9 o9 σ M k hr hv (by omega)) gL_act_X5_departuresFrom rfl rfl rfl hdX5_departuresFrom ⟨(Nat.le_of_ble_eq_true rfl), (Nat.le_of_ble_eq_true rfl)⟩ 13 rfl rfl (SW κ Sf f2 ++ ((HO κ Ha hf nx ct ++ hW κ Hs gh 10) ++ RAW κ rr (dr3.2))) (fun _ => SW κ Sf f2 ++ (kW κ Sa Ha Hs hf ra (Sf 0) a9 b9 p9 o9 g nx ct gh ++ RAW κ rr (dr3.2))) (pmA_r) (fun _ => pmA_r.symm) rfl (Nat.le_of_ble_eq_true rfl) dL_act_178 ⟨Nat.le_of_ble_eq_true rfl, Nat.le_of_ble_eq_true rfl⟩ (fun _ _ => ?_)
          refine zn_iadd C dL_act_181 ?_
          refine z_istore C [(10, .int (nI ((sumL (fun b => sumL (fun t => σ (90 + 10 * t + b)) (σ 2)) k) + (sumL (fun i => σ (90 + 10 * i + k)) (σ 2))))), (11, .int (nI k)), (9, .int (nI (σ (65 + 5 * (x9.1) + 4)))), (8, .int (tI (wtT σ (x9.1)))), (7, .int (nI (psS nt σ (65 + 5 * (x9.1) + 2)))), (6, .int (nI nt)), (5, .int (nI (x9.1))), (4, .int (nI ((dr1.1) % (σ 1)))), (3, .int (nI (σ 2))), (2, .int (nI (σ 1))), (0, .ref (ra)), (1, .ref (rr))] dL_act_182 (by decide) rfl ?_
          refine zn_iinc (n := 1) C [(11, .int (nI (k + 1))), (10, .int (nI ((sumL (fun b => sumL (fun t => σ (90 + 10 * t + b)) (σ 2)) k) + (sumL (fun i => σ (90 + 10 * i + k)) (σ 2))))), (9, .int (nI (σ (65 + 5 * (x9.1) + 4)))), (8, .int (tI (wtT σ (x9.1)))), (7, .int (nI (psS nt σ (65 + 5 * (x9.1) + 2)))), (6, .int (nI nt)), (5, .int (nI (x9.1))), (4, .int (nI ((dr1.1) % (σ 1)))), (3, .int (nI (σ 2))), (2, .int (nI (σ 1))), (0, .ref (ra)), (1, .ref (rr))] dL_act_184 1 rfl (by decide) rfl ?_
          refine z_goto (tgt := 167) C dL_act_187 (by decide) ?_
          refine z_lv [0, 1, 2, 3, 4, 5, 6, 7, 8, 9, 10, 11] rfl ?_
          exact ih167 (k + 1) (by omega) (by omega)
    refine z_cut (α := Unit) (fun _ => True) (fun _ => SW κ Sf f ++ (kW κ Sa Ha Hs hf ra (Sf 0) a9 b9 p9 o9 g nx ct gh ++ RAW κ rr (dr2.2))) (fun _ => [(5, .int (nI (x9.1))), (4, .int (nI ((dr1.1) % (σ 1)))), (3, .int (nI (σ 2))), (2, .int (nI (σ 1))), (0, .ref (ra)), (1, .ref (rr))]) (fun _ => []) 289 (fun _ _ => ?_) (fun cut289 => ?_)
    · refine z_iload_n C dL_act_289 3 rfl ?_
      refine zn_if_ne C 297 dL_act_290 (by decide) (by omega) (fun _ => ?_) (fun _ => by exfalso; omega)
      refine z_aload_n C dL_act_297 4 rfl ?_
      refine z_iload C dL_act_298 1 rfl ?_
      refine z_callV C (mX5_obstacle_ok l D κ Sa g ra (Sf 0) (Ha 0) a9 b9 p9 o9 σ M ((dr1.1) % (σ 1)) hr hv (by omega)) gL_act_X5_obstacle rfl rfl rfl hdX5_obstacle ⟨(Nat.le_of_ble_eq_true rfl), (Nat.le_of_ble_eq_true rfl)⟩ 13 rfl rfl (SW κ Sf f ++ ((HO κ Ha hf nx ct ++ hW κ Hs gh 10) ++ RAW κ rr (dr2.2))) (fun _ => SW κ Sf f ++ (kW κ Sa Ha Hs hf ra (Sf 0) a9 b9 p9 o9 g nx ct gh ++ RAW κ rr (dr2.2))) (pmA_r) (fun _ => pmA_r.symm) rfl (Nat.le_of_ble_eq_true rfl) dL_act_300 ⟨Nat.le_of_ble_eq_true rfl, Nat.le_of_ble_eq_true rfl⟩ (fun _ _ => ?_)
      refine z_istore C [(12, .int (nI (rsn σ ((dr1.1) % (σ 1))))), (5, .int (nI (x9.1))), (4, .int (nI ((dr1.1) % (σ 1)))), (3, .int (nI (σ 2))), (2, .int (nI (σ 1))), (0, .ref (ra)), (1, .ref (rr))] dL_act_303 (by decide) rfl ?_
      refine z_aload_n C dL_act_305 5 rfl ?_
      refine z_callV C (mX5_freeLevers l D κ Sa g ra (Sf 0) (Ha 0) a9 b9 p9 o9 σ M  hr hv) gL_act_X5_freeLevers rfl rfl rfl hdX5_freeLevers ⟨(Nat.le_of_ble_eq_true rfl), (Nat.le_of_ble_eq_true rfl)⟩ 13 rfl rfl (SW κ Sf f ++ ((HO κ Ha hf nx ct ++ hW κ Hs gh 10) ++ RAW κ rr (dr2.2))) (fun _ => SW κ Sf f ++ (kW κ Sa Ha Hs hf ra (Sf 0) a9 b9 p9 o9 g nx ct gh ++ RAW κ rr (dr2.2))) (pmA_r) (fun _ => pmA_r.symm) rfl (Nat.le_of_ble_eq_true rfl) dL_act_306 ⟨Nat.le_of_ble_eq_true rfl, Nat.le_of_ble_eq_true rfl⟩ (fun _ _ => ?_)
      refine z_istore C [(13, .int (nI (sumL (fun i => if rsn σ i = 0 then 1 else 0) (σ 1)))), (12, .int (nI (rsn σ ((dr1.1) % (σ 1))))), (5, .int (nI (x9.1))), (4, .int (nI ((dr1.1) % (σ 1)))), (3, .int (nI (σ 2))), (2, .int (nI (σ 1))), (0, .ref (ra)), (1, .ref (rr))] dL_act_309 (by decide) rfl ?_
      by_cases hrs : rsn σ ((dr1.1) % (σ 1)) = 0
      · refine z_aload_n C dL_act_311 6 rfl ?_
        refine z_iload C dL_act_312 3 rfl ?_
        refine zh_callS C (aX_ok adK adV) hX (mL_pulled_ok l D κ Sa Ha Hs hf ra (Sf 0) a9 b9 p9 o9 g nx ct gh σ M ((dr1.1) % (σ 1)) hr hv hhf hj0.1 hj0.2.1 (by omega) hrs adK adV) gL_act_L_pulled rfl rfl rfl hdL_pulled ⟨(Nat.le_of_ble_eq_true rfl), (Nat.le_of_ble_eq_true rfl)⟩ (SW κ Sf f ++ RAW κ rr (dr2.2)) (fun u => SW κ Sf f ++ (kW κ Sa Ha Hs hf ra (Sf 0) a9 b9 p9 o9 (u.2) (fwN nx) (mnN ct) (upS gh nx u.1) ++ RAW κ rr (dr2.2))) pmA_k (fun _ => pmA_k.symm) rfl (Nat.le_of_ble_eq_true rfl) dL_act_314 ⟨Nat.le_of_ble_eq_true rfl, Nat.le_of_ble_eq_true rfl⟩ (fun c1 hc1 => ?_)
        have hj1 := hj0.push hg0 hc1.1
        have gd1 : Good M T (upN σ (5 + 6 * ((dr1.1) % (σ 1)) + 4) 1) := hg0.clr (by omega) (by omega)
        have hv1 := gd1.1
        have q11 : (upN σ (5 + 6 * ((dr1.1) % (σ 1)) + 4) 1) 1 = σ 1 := by first | exact psS_1 _ _ | (repeat rw [upN_n (by omega)])
        have q21 : (upN σ (5 + 6 * ((dr1.1) % (σ 1)) + 4) 1) 2 = σ 2 := by first | exact psS_2 _ _ | (repeat rw [upN_n (by omega)])
        have hbd1 := hv1.bd
        have hpb1 : sumL (fun i => (upN σ (5 + 6 * ((dr1.1) % (σ 1)) + 4) 1) (5 + 6 * i + 4)) ((upN σ (5 + 6 * ((dr1.1) % (σ 1)) + 4) 1) 1) ≤ (upN σ (5 + 6 * ((dr1.1) % (σ 1)) + 4) 1) 1 * 1 := sumL_le 1 _ (fun i hi => (hv1.blk hi).2.2.2.2.2.2.1)
        refine z_istore C [(14, .int (nI (sumL (fun i => upN σ (5 + 6 * ((dr1.1) % (σ 1)) + 4) 1 (5 + 6 * i + 4)) (upN σ (5 + 6 * ((dr1.1) % (σ 1)) + 4) 1 1)))), (13, .int (nI (sumL (fun i => if rsn σ i = 0 then 1 else 0) (σ 1)))), (12, .int (nI (rsn σ ((dr1.1) % (σ 1))))), (5, .int (nI (x9.1))), (4, .int (nI ((dr1.1) % (σ 1)))), (3, .int (nI (σ 2))), (2, .int (nI (σ 1))), (0, .ref (ra)), (1, .ref (rr))] dL_act_317 (by decide) rfl ?_
        refine z_iload_n C dL_act_319 6 rfl ?_
        refine zn_if_eq C 328 dL_act_320 (by decide) (by omega) (fun _ => by exfalso; omega) (fun _ => ?_)
        refine z_iload C dL_act_323 2 rfl ?_
        refine zn_if_eq C 361 dL_act_325 (by decide) (by omega) (fun _ => ?_) (fun _ => by exfalso; omega)
        refine z_iload C dL_act_361 0 rfl ?_
        have hpp := pull_pos (show ((dr1.1) % (σ 1)) < σ 1 by omega) hn1
        have hfp := free_pull (show ((dr1.1) % (σ 1)) < σ 1 by omega) hn1 hn2 hrs
        have hfl := free_le (rsn σ) (σ 1)
        refine zn_if_le C 390 dL_act_363 (by decide) (by omega) (fun _ => by exfalso; omega) (fun _ => ?_)
        refine z_aload_n C dL_act_366 7 rfl ?_
        refine z_iload C dL_act_367 4 rfl ?_
        refine z_callV C (mX5_isClear_ok l D κ Sa (c1.2) ra (Sf 0) (Ha 0) a9 b9 p9 o9 (upN σ (5 + 6 * ((dr1.1) % (σ 1)) + 4) 1) M ((dr1.1) % (σ 1)) hc1.2 hv1 (by omega)) gL_act_X5_isClear rfl rfl rfl hdX5_isClear ⟨(Nat.le_of_ble_eq_true rfl), (Nat.le_of_ble_eq_true rfl)⟩ 13 rfl rfl (SW κ Sf f ++ ((HO κ Ha hf (fwN nx) (mnN ct) ++ hW κ Hs (upS gh nx c1.1) 10) ++ RAW κ rr (dr2.2))) (fun _ => SW κ Sf f ++ (kW κ Sa Ha Hs hf ra (Sf 0) a9 b9 p9 o9 (c1.2) (fwN nx) (mnN ct) (upS gh nx c1.1) ++ RAW κ rr (dr2.2))) (pmA_r) (fun _ => pmA_r.symm) rfl (Nat.le_of_ble_eq_true rfl) dL_act_369 ⟨Nat.le_of_ble_eq_true rfl, Nat.le_of_ble_eq_true rfl⟩ (fun _ _ => ?_)
        refine zb_if_eq C 390 dL_act_372 (by decide) (fun q => absurd q (show ¬ decide (upN σ (5 + 6 * ((dr1.1) % (σ 1)) + 4) 1 (5 + 6 * ((dr1.1) % (σ 1)) + 4) = 1) = false from by rw [upN_s]; decide)) (fun _ => ?_)
        refine z_aload_n C dL_act_375 7 rfl ?_
        refine z_callV C (mX5_freeLevers l D κ Sa (c1.2) ra (Sf 0) (Ha 0) a9 b9 p9 o9 (upN σ (5 + 6 * ((dr1.1) % (σ 1)) + 4) 1) M  hc1.2 hv1) gL_act_X5_freeLevers rfl rfl rfl hdX5_freeLevers ⟨(Nat.le_of_ble_eq_true rfl), (Nat.le_of_ble_eq_true rfl)⟩ 13 rfl rfl (SW κ Sf f ++ ((HO κ Ha hf (fwN nx) (mnN ct) ++ hW κ Hs (upS gh nx c1.1) 10) ++ RAW κ rr (dr2.2))) (fun _ => SW κ Sf f ++ (kW κ Sa Ha Hs hf ra (Sf 0) a9 b9 p9 o9 (c1.2) (fwN nx) (mnN ct) (upS gh nx c1.1) ++ RAW κ rr (dr2.2))) (pmA_r) (fun _ => pmA_r.symm) rfl (Nat.le_of_ble_eq_true rfl) dL_act_376 ⟨Nat.le_of_ble_eq_true rfl, Nat.le_of_ble_eq_true rfl⟩ (fun _ _ => ?_)
        refine z_iload C dL_act_379 1 rfl ?_
        refine z_iconst (v := nI 1) C dL_act_381 (by decide) ?_
        refine zn_isub C dL_act_382 (by omega) ?_
        refine zn_icmp_ne C 390 dL_act_383 (by decide) (by omega) (by omega) (fun _ => by exfalso; omega) (fun _ => ?_)
        refine z_iconst (v := nI 1) C dL_act_386 (by decide) ?_
        refine z_goto (tgt := 391) C dL_act_387 (by decide) ?_
        exact z_zret C hr9 hk (by decide) ((c1.2, fwN nx, mnN ct, upS gh nx c1.1, f, dr2.2)) (rfl) (⟨mnN_1, hj1.mo (by omega) (by omega) (by omega), ⟨_, hc1.2, gd1.mo (by omega) (by omega) (by omega)⟩⟩) (List.Perm.refl _) dL_act_391 (Nat.le_of_ble_eq_true rfl) (Nat.le_of_ble_eq_true rfl)
      · refine z_aload_n C dL_act_311 6 rfl ?_
        refine z_iload C dL_act_312 3 rfl ?_
        refine zh_callS C (aX_ok adK adV) hX (mL_pulled_bad l D κ adK adV Sa g ra (Sf 0) (Ha 0) a9 b9 p9 o9 σ M ((dr1.1) % (σ 1)) hls hr hv (by omega) hrs) gL_act_L_pulled rfl rfl rfl hdL_pulled ⟨(Nat.le_of_ble_eq_true rfl), (Nat.le_of_ble_eq_true rfl)⟩ (SW κ Sf f ++ ((HO κ Ha hf nx ct ++ hW κ Hs gh 10) ++ RAW κ rr (dr2.2))) (fun _ => SW κ Sf f ++ (kW κ Sa Ha Hs hf ra (Sf 0) a9 b9 p9 o9 g nx ct gh ++ RAW κ rr (dr2.2))) (pmA_r) (fun _ => pmA_r.symm) rfl (Nat.le_of_ble_eq_true rfl) dL_act_314 ⟨Nat.le_of_ble_eq_true rfl, Nat.le_of_ble_eq_true rfl⟩ (fun _ _ => ?_)
        refine z_istore C [(14, .int ((-3 : Int32))), (13, .int (nI (sumL (fun i => if rsn σ i = 0 then 1 else 0) (σ 1)))), (12, .int (nI (rsn σ ((dr1.1) % (σ 1))))), (5, .int (nI (x9.1))), (4, .int (nI ((dr1.1) % (σ 1)))), (3, .int (nI (σ 2))), (2, .int (nI (σ 1))), (0, .ref (ra)), (1, .ref (rr))] dL_act_317 (by decide) rfl ?_
        refine z_iload_n C dL_act_319 6 rfl ?_
        refine zn_if_eq C 328 dL_act_320 (by decide) (by omega) (fun _ => by exfalso; omega) (fun _ => ?_)
        refine z_iload C dL_act_323 2 rfl ?_
        refine zn_if_eq C 361 dL_act_325 (by decide) (by omega) (fun _ => by exfalso; omega) (fun _ => ?_)
        refine z_iload C dL_act_328 0 rfl ?_
        refine z_iload_n C dL_act_330 6 rfl ?_
        refine zn_if_ne C 339 dL_act_331 (by decide) (by omega) (fun _ => ?_) (fun _ => by exfalso; omega)
        refine z_bipush (v := (-3)) C dL_act_339 (by decide) ?_
        refine z_icmp_ne C 357 dL_act_341 (by decide) (fun q => absurd (rfl) q) (fun _ => ?_)
        refine z_aload_n C dL_act_344 7 rfl ?_
        refine z_iload C dL_act_345 4 rfl ?_
        refine zh_callS C (aX_ok adK adV) hX (mL_removed_ok l D κ Sa Ha Hs hf ra (Sf 0) a9 b9 p9 o9 g nx ct gh σ M ((dr1.1) % (σ 1)) hr hv hhf hj0.1 hj0.2.1 (by omega) adK adV) gL_act_L_removed rfl rfl rfl hdL_removed ⟨(Nat.le_of_ble_eq_true rfl), (Nat.le_of_ble_eq_true rfl)⟩ (SW κ Sf f ++ RAW κ rr (dr2.2)) (fun u => SW κ Sf f ++ (kW κ Sa Ha Hs hf ra (Sf 0) a9 b9 p9 o9 (u.2) (fwN nx) (mnN ct) (upS gh nx u.1) ++ RAW κ rr (dr2.2))) pmA_k (fun _ => pmA_k.symm) rfl (Nat.le_of_ble_eq_true rfl) dL_act_347 ⟨Nat.le_of_ble_eq_true rfl, Nat.le_of_ble_eq_true rfl⟩ (fun c1 hc1 => ?_)
        have hj1 := hj0.push hg0 hc1.1
        have gd1 : Good M T (upN (upN σ (5 + 6 * ((dr1.1) % (σ 1)) + 5) 0) 3 (σ 3 + σ (5 + 6 * ((dr1.1) % (σ 1)) + 5))) := hg0.rem (by omega)
        have hv1 := gd1.1
        have q11 : (upN (upN σ (5 + 6 * ((dr1.1) % (σ 1)) + 5) 0) 3 (σ 3 + σ (5 + 6 * ((dr1.1) % (σ 1)) + 5))) 1 = σ 1 := by first | exact psS_1 _ _ | (repeat rw [upN_n (by omega)])
        have q21 : (upN (upN σ (5 + 6 * ((dr1.1) % (σ 1)) + 5) 0) 3 (σ 3 + σ (5 + 6 * ((dr1.1) % (σ 1)) + 5))) 2 = σ 2 := by first | exact psS_2 _ _ | (repeat rw [upN_n (by omega)])
        have hbd1 := hv1.bd
        refine zn_if_lt C 357 dL_act_350 (by decide) (by omega) ?_
        refine z_iconst (v := nI 1) C dL_act_353 (by decide) ?_
        refine z_goto (tgt := 391) C dL_act_354 (by decide) ?_
        exact z_zret C hr9 hk (by decide) ((c1.2, fwN nx, mnN ct, upS gh nx c1.1, f, dr2.2)) (rfl) (⟨mnN_1, hj1.mo (by omega) (by omega) (by omega), ⟨_, hc1.2, gd1.mo (by omega) (by omega) (by omega)⟩⟩) (List.Perm.refl _) dL_act_391 (Nat.le_of_ble_eq_true rfl) (Nat.le_of_ble_eq_true rfl)
    generalize hxs : (dr2.1) % 10 = sw at hsw
    rcases (show sw = 0 ∨ sw = 1 ∨ sw = 2 ∨ sw = 3 ∨ sw = 4 ∨ sw = 5 ∨ sw = 6 ∨ sw = 7 ∨ sw = 8 ∨ sw = 9 by omega) with rfl | rfl | rfl | rfl | rfl | rfl | rfl | rfl | rfl | rfl
    · refine z_tableIn (off := 51) (tgt := 100) C dL_act_49 (by decide) (by decide) rfl (by decide) ?_
      refine z_lv [0, 1, 2, 3, 4, 5] rfl ?_
      exact z_eq (cut100 () trivial) rfl (rfl) rfl (rfl)
    · refine z_tableIn (off := 51) (tgt := 100) C dL_act_49 (by decide) (by decide) rfl (by decide) ?_
      refine z_lv [0, 1, 2, 3, 4, 5] rfl ?_
      exact z_eq (cut100 () trivial) rfl (rfl) rfl (rfl)
    · refine z_tableIn (off := 51) (tgt := 100) C dL_act_49 (by decide) (by decide) rfl (by decide) ?_
      refine z_lv [0, 1, 2, 3, 4, 5] rfl ?_
      exact z_eq (cut100 () trivial) rfl (rfl) rfl (rfl)
    · refine z_tableIn (off := 240) (tgt := 289) C dL_act_49 (by decide) (by decide) rfl (by decide) ?_
      refine z_lv [0, 1, 2, 3, 4, 5] rfl ?_
      exact z_eq (cut289 () trivial) rfl (rfl) rfl (rfl)
    · refine z_tableIn (off := 240) (tgt := 289) C dL_act_49 (by decide) (by decide) rfl (by decide) ?_
      refine z_lv [0, 1, 2, 3, 4, 5] rfl ?_
      exact z_eq (cut289 () trivial) rfl (rfl) rfl (rfl)
    · refine z_tableIn (off := 240) (tgt := 289) C dL_act_49 (by decide) (by decide) rfl (by decide) ?_
      refine z_lv [0, 1, 2, 3, 4, 5] rfl ?_
      exact z_eq (cut289 () trivial) rfl (rfl) rfl (rfl)
    · refine z_tableIn (off := 343) (tgt := 392) C dL_act_49 (by decide) (by decide) rfl (by decide) ?_
      refine z_iload_n C dL_act_392 3 rfl ?_
      refine zn_if_le C 409 dL_act_393 (by decide) (by omega) (fun _ => by exfalso; omega) (fun _ => ?_)
      refine z_aload_n C dL_act_396 4 rfl ?_
      refine z_iload C dL_act_397 1 rfl ?_
      refine z_callV C (mX5_isClear_ok l D κ Sa g ra (Sf 0) (Ha 0) a9 b9 p9 o9 σ M ((dr1.1) % (σ 1)) hr hv (by omega)) gL_act_X5_isClear rfl rfl rfl hdX5_isClear ⟨(Nat.le_of_ble_eq_true rfl), (Nat.le_of_ble_eq_true rfl)⟩ 13 rfl rfl (SW κ Sf f ++ ((HO κ Ha hf nx ct ++ hW κ Hs gh 10) ++ RAW κ rr (dr2.2))) (fun _ => SW κ Sf f ++ (kW κ Sa Ha Hs hf ra (Sf 0) a9 b9 p9 o9 g nx ct gh ++ RAW κ rr (dr2.2))) (pmA_r) (fun _ => pmA_r.symm) rfl (Nat.le_of_ble_eq_true rfl) dL_act_399 ⟨Nat.le_of_ble_eq_true rfl, Nat.le_of_ble_eq_true rfl⟩ (fun _ _ => ?_)
      refine zb_if_eq C 409 dL_act_402 (by decide) (fun h11 => ?_) (fun h12 => ?_)
      · refine z_iconst (v := nI 0) C dL_act_409 (by decide) ?_
        refine z_istore C [(15, .int (nI 0)), (5, .int (nI (x9.1))), (4, .int (nI ((dr1.1) % (σ 1)))), (3, .int (nI (σ 2))), (2, .int (nI (σ 1))), (0, .ref (ra)), (1, .ref (rr))] dL_act_410 (by decide) rfl ?_
        refine z_aload_n C dL_act_412 5 rfl ?_
        refine z_iload C dL_act_413 2 rfl ?_
        refine zh_callS C (aX_ok adK adV) hX (mL_stopped_bad l D κ adK adV Sa g ra (Sf 0) (Ha 0) a9 b9 p9 o9 σ M ((dr1.1) % (σ 1)) hls hr hv (by omega) (by have := of_decide_eq_false h11; omega)) gL_act_L_stopped rfl rfl rfl hdL_stopped ⟨(Nat.le_of_ble_eq_true rfl), (Nat.le_of_ble_eq_true rfl)⟩ (SW κ Sf f ++ ((HO κ Ha hf nx ct ++ hW κ Hs gh 10) ++ RAW κ rr (dr2.2))) (fun _ => SW κ Sf f ++ (kW κ Sa Ha Hs hf ra (Sf 0) a9 b9 p9 o9 g nx ct gh ++ RAW κ rr (dr2.2))) (pmA_r) (fun _ => pmA_r.symm) rfl (Nat.le_of_ble_eq_true rfl) dL_act_415 ⟨Nat.le_of_ble_eq_true rfl, Nat.le_of_ble_eq_true rfl⟩ (fun _ _ => ?_)
        refine z_istore C [(16, .int ((-3 : Int32))), (15, .int (nI 0)), (5, .int (nI (x9.1))), (4, .int (nI ((dr1.1) % (σ 1)))), (3, .int (nI (σ 2))), (2, .int (nI (σ 1))), (0, .ref (ra)), (1, .ref (rr))] dL_act_418 (by decide) rfl ?_
        refine z_iload C dL_act_420 1 rfl ?_
        refine z_if_eq C 447 dL_act_422 (by decide) (fun _ => ?_) (fun q => absurd (by decide) q)
        refine z_iload C dL_act_447 0 rfl ?_
        refine z_iload_n C dL_act_449 5 rfl ?_
        refine zn_if_ne C 458 dL_act_450 (by decide) (by omega) (fun _ => ?_) (fun _ => by exfalso; omega)
        refine z_bipush (v := (-3)) C dL_act_458 (by decide) ?_
        refine z_icmp_ne C 480 dL_act_460 (by decide) (fun q => absurd (rfl) q) (fun _ => ?_)
        refine z_iload_n C dL_act_463 5 rfl ?_
        refine zn_if_eq C 476 dL_act_464 (by decide) (by omega) (fun _ => by exfalso; omega) (fun _ => ?_)
        refine z_aload_n C dL_act_467 6 rfl ?_
        refine z_iload C dL_act_468 3 rfl ?_
        refine zh_callS C (aX_ok adK adV) hX (mL_removed_ok l D κ Sa Ha Hs hf ra (Sf 0) a9 b9 p9 o9 g nx ct gh σ M ((dr1.1) % (σ 1)) hr hv hhf hj0.1 hj0.2.1 (by omega) adK adV) gL_act_L_removed rfl rfl rfl hdL_removed ⟨(Nat.le_of_ble_eq_true rfl), (Nat.le_of_ble_eq_true rfl)⟩ (SW κ Sf f ++ RAW κ rr (dr2.2)) (fun u => SW κ Sf f ++ (kW κ Sa Ha Hs hf ra (Sf 0) a9 b9 p9 o9 (u.2) (fwN nx) (mnN ct) (upS gh nx u.1) ++ RAW κ rr (dr2.2))) pmA_k (fun _ => pmA_k.symm) rfl (Nat.le_of_ble_eq_true rfl) dL_act_470 ⟨Nat.le_of_ble_eq_true rfl, Nat.le_of_ble_eq_true rfl⟩ (fun c1 hc1 => ?_)
        have hj1 := hj0.push hg0 hc1.1
        have gd1 : Good M T (upN (upN σ (5 + 6 * ((dr1.1) % (σ 1)) + 5) 0) 3 (σ 3 + σ (5 + 6 * ((dr1.1) % (σ 1)) + 5))) := hg0.rem (by omega)
        have hv1 := gd1.1
        have q11 : (upN (upN σ (5 + 6 * ((dr1.1) % (σ 1)) + 5) 0) 3 (σ 3 + σ (5 + 6 * ((dr1.1) % (σ 1)) + 5))) 1 = σ 1 := by first | exact psS_1 _ _ | (repeat rw [upN_n (by omega)])
        have q21 : (upN (upN σ (5 + 6 * ((dr1.1) % (σ 1)) + 5) 0) 3 (σ 3 + σ (5 + 6 * ((dr1.1) % (σ 1)) + 5))) 2 = σ 2 := by first | exact psS_2 _ _ | (repeat rw [upN_n (by omega)])
        have hbd1 := hv1.bd
        refine zn_if_lt C 480 dL_act_473 (by decide) (by omega) ?_
        refine z_iconst (v := nI 1) C dL_act_476 (by decide) ?_
        refine z_goto (tgt := 481) C dL_act_477 (by decide) ?_
        exact z_zret C hr9 hk (by decide) ((c1.2, fwN nx, mnN ct, upS gh nx c1.1, f, dr2.2)) (rfl) (⟨mnN_1, hj1.mo (by omega) (by omega) (by omega), ⟨_, hc1.2, gd1.mo (by omega) (by omega) (by omega)⟩⟩) (List.Perm.refl _) dL_act_481 (Nat.le_of_ble_eq_true rfl) (Nat.le_of_ble_eq_true rfl)
      · refine z_iconst (v := nI 1) C dL_act_405 (by decide) ?_
        refine z_goto (tgt := 410) C dL_act_406 (by decide) ?_
        refine z_istore C [(15, .int (nI 1)), (5, .int (nI (x9.1))), (4, .int (nI ((dr1.1) % (σ 1)))), (3, .int (nI (σ 2))), (2, .int (nI (σ 1))), (0, .ref (ra)), (1, .ref (rr))] dL_act_410 (by decide) rfl ?_
        refine z_aload_n C dL_act_412 5 rfl ?_
        refine z_iload C dL_act_413 2 rfl ?_
        refine zh_callS C (aX_ok adK adV) hX (mL_stopped_ok l D κ Sa Ha Hs hf ra (Sf 0) a9 b9 p9 o9 g nx ct gh σ M ((dr1.1) % (σ 1)) hr hv hhf hj0.1 hj0.2.1 (by omega) (by have := of_decide_eq_true h12; omega) adK adV) gL_act_L_stopped rfl rfl rfl hdL_stopped ⟨(Nat.le_of_ble_eq_true rfl), (Nat.le_of_ble_eq_true rfl)⟩ (SW κ Sf f ++ RAW κ rr (dr2.2)) (fun u => SW κ Sf f ++ (kW κ Sa Ha Hs hf ra (Sf 0) a9 b9 p9 o9 (u.2) (fwN nx) (mnN ct) (upS gh nx u.1) ++ RAW κ rr (dr2.2))) pmA_k (fun _ => pmA_k.symm) rfl (Nat.le_of_ble_eq_true rfl) dL_act_415 ⟨Nat.le_of_ble_eq_true rfl, Nat.le_of_ble_eq_true rfl⟩ (fun c1 hc1 => ?_)
        have hj1 := hj0.push hg0 hc1.1
        have gd1 : Good M T (upN σ (5 + 6 * ((dr1.1) % (σ 1)) + 4) 0) := hg0.clr (by omega) (by omega)
        have hv1 := gd1.1
        have q11 : (upN σ (5 + 6 * ((dr1.1) % (σ 1)) + 4) 0) 1 = σ 1 := by first | exact psS_1 _ _ | (repeat rw [upN_n (by omega)])
        have q21 : (upN σ (5 + 6 * ((dr1.1) % (σ 1)) + 4) 0) 2 = σ 2 := by first | exact psS_2 _ _ | (repeat rw [upN_n (by omega)])
        have hbd1 := hv1.bd
        have hpb1 : sumL (fun i => (upN σ (5 + 6 * ((dr1.1) % (σ 1)) + 4) 0) (5 + 6 * i + 4)) ((upN σ (5 + 6 * ((dr1.1) % (σ 1)) + 4) 0) 1) ≤ (upN σ (5 + 6 * ((dr1.1) % (σ 1)) + 4) 0) 1 * 1 := sumL_le 1 _ (fun i hi => (hv1.blk hi).2.2.2.2.2.2.1)
        refine z_istore C [(16, .int (nI (sumL (fun i => upN σ (5 + 6 * ((dr1.1) % (σ 1)) + 4) 0 (5 + 6 * i + 4)) (upN σ (5 + 6 * ((dr1.1) % (σ 1)) + 4) 0 1)))), (15, .int (nI 1)), (5, .int (nI (x9.1))), (4, .int (nI ((dr1.1) % (σ 1)))), (3, .int (nI (σ 2))), (2, .int (nI (σ 1))), (0, .ref (ra)), (1, .ref (rr))] dL_act_418 (by decide) rfl ?_
        refine z_iload C dL_act_420 1 rfl ?_
        refine z_if_eq C 447 dL_act_422 (by decide) (fun q => absurd q (by decide)) (fun _ => ?_)
        refine z_iload C dL_act_425 0 rfl ?_
        refine zn_if_lt C 443 dL_act_427 (by decide) (by omega) ?_
        refine z_aload_n C dL_act_430 6 rfl ?_
        refine z_iload C dL_act_431 3 rfl ?_
        refine z_callV C (mX5_isClear_ok l D κ Sa (c1.2) ra (Sf 0) (Ha 0) a9 b9 p9 o9 (upN σ (5 + 6 * ((dr1.1) % (σ 1)) + 4) 0) M ((dr1.1) % (σ 1)) hc1.2 hv1 (by omega)) gL_act_X5_isClear rfl rfl rfl hdX5_isClear ⟨(Nat.le_of_ble_eq_true rfl), (Nat.le_of_ble_eq_true rfl)⟩ 13 rfl rfl (SW κ Sf f ++ ((HO κ Ha hf (fwN nx) (mnN ct) ++ hW κ Hs (upS gh nx c1.1) 10) ++ RAW κ rr (dr2.2))) (fun _ => SW κ Sf f ++ (kW κ Sa Ha Hs hf ra (Sf 0) a9 b9 p9 o9 (c1.2) (fwN nx) (mnN ct) (upS gh nx c1.1) ++ RAW κ rr (dr2.2))) (pmA_r) (fun _ => pmA_r.symm) rfl (Nat.le_of_ble_eq_true rfl) dL_act_433 ⟨Nat.le_of_ble_eq_true rfl, Nat.le_of_ble_eq_true rfl⟩ (fun _ _ => ?_)
        refine zb_if_ne C 443 dL_act_436 (by decide) (fun q => absurd q (show ¬ decide (upN σ (5 + 6 * ((dr1.1) % (σ 1)) + 4) 0 (5 + 6 * ((dr1.1) % (σ 1)) + 4) = 1) = true from by rw [upN_s]; decide)) (fun _ => ?_)
        refine z_iconst (v := nI 1) C dL_act_439 (by decide) ?_
        refine z_goto (tgt := 481) C dL_act_440 (by decide) ?_
        exact z_zret C hr9 hk (by decide) ((c1.2, fwN nx, mnN ct, upS gh nx c1.1, f, dr2.2)) (rfl) (⟨mnN_1, hj1.mo (by omega) (by omega) (by omega), ⟨_, hc1.2, gd1.mo (by omega) (by omega) (by omega)⟩⟩) (List.Perm.refl _) dL_act_481 (Nat.le_of_ble_eq_true rfl) (Nat.le_of_ble_eq_true rfl)
    · refine z_tableIn (off := 433) (tgt := 482) C dL_act_49 (by decide) (by decide) rfl (by decide) ?_
      refine z_iload_n C dL_act_482 3 rfl ?_
      refine zn_if_le C 499 dL_act_483 (by decide) (by omega) (fun _ => by exfalso; omega) (fun _ => ?_)
      refine z_aload_n C dL_act_486 4 rfl ?_
      refine z_iload C dL_act_487 1 rfl ?_
      refine z_callV C (mX5_trainIn_ok l D κ Sa g ra (Sf 0) (Ha 0) a9 b9 p9 o9 σ M ((dr1.1) % (σ 1)) hr hv (by omega)) gL_act_X5_trainIn rfl rfl rfl hdX5_trainIn ⟨(Nat.le_of_ble_eq_true rfl), (Nat.le_of_ble_eq_true rfl)⟩ 13 rfl rfl (SW κ Sf f ++ ((HO κ Ha hf nx ct ++ hW κ Hs gh 10) ++ RAW κ rr (dr2.2))) (fun _ => SW κ Sf f ++ (kW κ Sa Ha Hs hf ra (Sf 0) a9 b9 p9 o9 g nx ct gh ++ RAW κ rr (dr2.2))) (pmA_r) (fun _ => pmA_r.symm) rfl (Nat.le_of_ble_eq_true rfl) dL_act_489 ⟨Nat.le_of_ble_eq_true rfl, Nat.le_of_ble_eq_true rfl⟩ (fun _ _ => ?_)
      refine zt_if_lt C 499 dL_act_492 (by decide) (by omega) (fun h13 => ?_) (fun h14 => ?_)
      · refine z_iconst (v := nI 0) C dL_act_499 (by decide) ?_
        refine z_istore C [(17, .int (nI 0)), (5, .int (nI (x9.1))), (4, .int (nI ((dr1.1) % (σ 1)))), (3, .int (nI (σ 2))), (2, .int (nI (σ 1))), (0, .ref (ra)), (1, .ref (rr))] dL_act_500 (by decide) rfl ?_
        refine z_iload_n C dL_act_502 4 rfl ?_
        refine zn_if_ne C 511 dL_act_503 (by decide) (by omega) (fun _ => ?_) (fun _ => by exfalso; omega)
        refine z_aload_n C dL_act_511 5 rfl ?_
        refine z_iload C dL_act_512 2 rfl ?_
        refine z_callV C (mX5_depthOf_ok l D κ Sa g ra (Sf 0) (Ha 0) a9 b9 p9 o9 σ M ((dr1.1) % (σ 1)) hr hv (by omega)) gL_act_X5_depthOf rfl rfl rfl hdX5_depthOf ⟨(Nat.le_of_ble_eq_true rfl), (Nat.le_of_ble_eq_true rfl)⟩ 13 rfl rfl (SW κ Sf f ++ ((HO κ Ha hf nx ct ++ hW κ Hs gh 10) ++ RAW κ rr (dr2.2))) (fun _ => SW κ Sf f ++ (kW κ Sa Ha Hs hf ra (Sf 0) a9 b9 p9 o9 g nx ct gh ++ RAW κ rr (dr2.2))) (pmA_r) (fun _ => pmA_r.symm) rfl (Nat.le_of_ble_eq_true rfl) dL_act_514 ⟨Nat.le_of_ble_eq_true rfl, Nat.le_of_ble_eq_true rfl⟩ (fun _ _ => ?_)
        refine z_istore C [(18, .int (nI (σ (5 + 6 * ((dr1.1) % (σ 1)) + 1)))), (17, .int (nI 0)), (5, .int (nI (x9.1))), (4, .int (nI ((dr1.1) % (σ 1)))), (3, .int (nI (σ 2))), (2, .int (nI (σ 1))), (0, .ref (ra)), (1, .ref (rr))] dL_act_517 (by decide) rfl ?_
        refine z_aload_n C dL_act_519 6 rfl ?_
        refine z_iload C dL_act_520 3 rfl ?_
        refine zh_callS C (aX_ok adK adV) hX (mL_repaired_ok l D κ Sa Ha Hs hf ra (Sf 0) a9 b9 p9 o9 g nx ct gh σ M ((dr1.1) % (σ 1)) hr hv hhf hj0.1 hj0.2.1 (by omega) h13 adK adV) gL_act_L_repaired rfl rfl rfl hdL_repaired ⟨(Nat.le_of_ble_eq_true rfl), (Nat.le_of_ble_eq_true rfl)⟩ (SW κ Sf f ++ RAW κ rr (dr2.2)) (fun u => SW κ Sf f ++ (kW κ Sa Ha Hs hf ra (Sf 0) a9 b9 p9 o9 (u.2) (fwN nx) (mnN ct) (upS gh nx u.1) ++ RAW κ rr (dr2.2))) pmA_k (fun _ => pmA_k.symm) rfl (Nat.le_of_ble_eq_true rfl) dL_act_522 ⟨Nat.le_of_ble_eq_true rfl, Nat.le_of_ble_eq_true rfl⟩ (fun c1 hc1 => ?_)
        have hj1 := hj0.push hg0 hc1.1
        have gd1 : Good M T (upN σ (5 + 6 * ((dr1.1) % (σ 1)) + 1) 0) := hg0.dep (by omega)
        have hv1 := gd1.1
        have q11 : (upN σ (5 + 6 * ((dr1.1) % (σ 1)) + 1) 0) 1 = σ 1 := by first | exact psS_1 _ _ | (repeat rw [upN_n (by omega)])
        have q21 : (upN σ (5 + 6 * ((dr1.1) % (σ 1)) + 1) 0) 2 = σ 2 := by first | exact psS_2 _ _ | (repeat rw [upN_n (by omega)])
        have hbd1 := hv1.bd
        refine z_istore C [(19, .int (nI (σ (5 + 6 * ((dr1.1) % (σ 1)) + 1)))), (18, .int (nI (σ (5 + 6 * ((dr1.1) % (σ 1)) + 1)))), (17, .int (nI 0)), (5, .int (nI (x9.1))), (4, .int (nI ((dr1.1) % (σ 1)))), (3, .int (nI (σ 2))), (2, .int (nI (σ 1))), (0, .ref (ra)), (1, .ref (rr))] dL_act_525 (by decide) rfl ?_
        refine z_iload C dL_act_527 2 rfl ?_
        refine z_if_eq C 556 dL_act_529 (by decide) (fun _ => ?_) (fun q => absurd (by decide) q)
        refine z_iload C dL_act_556 0 rfl ?_
        refine z_iload C dL_act_558 1 rfl ?_
        refine z_icmp_ne C 580 dL_act_560 (by decide) (fun q => absurd (rfl) q) (fun _ => ?_)
        refine z_iload_n C dL_act_563 6 rfl ?_
        refine zn_if_eq C 576 dL_act_564 (by decide) (by omega) (fun _ => by exfalso; omega) (fun _ => ?_)
        refine z_aload_n C dL_act_567 7 rfl ?_
        refine z_iload C dL_act_568 4 rfl ?_
        refine z_callV C (mX5_depthOf_ok l D κ Sa (c1.2) ra (Sf 0) (Ha 0) a9 b9 p9 o9 (upN σ (5 + 6 * ((dr1.1) % (σ 1)) + 1) 0) M ((dr1.1) % (σ 1)) hc1.2 hv1 (by omega)) gL_act_X5_depthOf rfl rfl rfl hdX5_depthOf ⟨(Nat.le_of_ble_eq_true rfl), (Nat.le_of_ble_eq_true rfl)⟩ 13 rfl rfl (SW κ Sf f ++ ((HO κ Ha hf (fwN nx) (mnN ct) ++ hW κ Hs (upS gh nx c1.1) 10) ++ RAW κ rr (dr2.2))) (fun _ => SW κ Sf f ++ (kW κ Sa Ha Hs hf ra (Sf 0) a9 b9 p9 o9 (c1.2) (fwN nx) (mnN ct) (upS gh nx c1.1) ++ RAW κ rr (dr2.2))) (pmA_r) (fun _ => pmA_r.symm) rfl (Nat.le_of_ble_eq_true rfl) dL_act_570 ⟨Nat.le_of_ble_eq_true rfl, Nat.le_of_ble_eq_true rfl⟩ (fun _ _ => ?_)
        have e573 : upN σ (5 + 6 * ((dr1.1) % (σ 1)) + 1) 0 (5 + 6 * ((dr1.1) % (σ 1)) + 1) = 0 := upN_s
        refine zn_if_ne C 580 dL_act_573 (by decide) (by omega) (fun _ => by exfalso; omega) (fun _ => ?_)
        refine z_iconst (v := nI 1) C dL_act_576 (by decide) ?_
        refine z_goto (tgt := 581) C dL_act_577 (by decide) ?_
        exact z_zret C hr9 hk (by decide) ((c1.2, fwN nx, mnN ct, upS gh nx c1.1, f, dr2.2)) (rfl) (⟨mnN_1, hj1.mo (by omega) (by omega) (by omega), ⟨_, hc1.2, gd1.mo (by omega) (by omega) (by omega)⟩⟩) (List.Perm.refl _) dL_act_581 (Nat.le_of_ble_eq_true rfl) (Nat.le_of_ble_eq_true rfl)
      · refine z_iconst (v := nI 1) C dL_act_495 (by decide) ?_
        refine z_goto (tgt := 500) C dL_act_496 (by decide) ?_
        refine z_istore C [(17, .int (nI 1)), (5, .int (nI (x9.1))), (4, .int (nI ((dr1.1) % (σ 1)))), (3, .int (nI (σ 2))), (2, .int (nI (σ 1))), (0, .ref (ra)), (1, .ref (rr))] dL_act_500 (by decide) rfl ?_
        refine z_iload_n C dL_act_502 4 rfl ?_
        refine zn_if_ne C 511 dL_act_503 (by decide) (by omega) (fun _ => ?_) (fun _ => by exfalso; omega)
        refine z_aload_n C dL_act_511 5 rfl ?_
        refine z_iload C dL_act_512 2 rfl ?_
        refine z_callV C (mX5_depthOf_ok l D κ Sa g ra (Sf 0) (Ha 0) a9 b9 p9 o9 σ M ((dr1.1) % (σ 1)) hr hv (by omega)) gL_act_X5_depthOf rfl rfl rfl hdX5_depthOf ⟨(Nat.le_of_ble_eq_true rfl), (Nat.le_of_ble_eq_true rfl)⟩ 13 rfl rfl (SW κ Sf f ++ ((HO κ Ha hf nx ct ++ hW κ Hs gh 10) ++ RAW κ rr (dr2.2))) (fun _ => SW κ Sf f ++ (kW κ Sa Ha Hs hf ra (Sf 0) a9 b9 p9 o9 g nx ct gh ++ RAW κ rr (dr2.2))) (pmA_r) (fun _ => pmA_r.symm) rfl (Nat.le_of_ble_eq_true rfl) dL_act_514 ⟨Nat.le_of_ble_eq_true rfl, Nat.le_of_ble_eq_true rfl⟩ (fun _ _ => ?_)
        refine z_istore C [(18, .int (nI (σ (5 + 6 * ((dr1.1) % (σ 1)) + 1)))), (17, .int (nI 1)), (5, .int (nI (x9.1))), (4, .int (nI ((dr1.1) % (σ 1)))), (3, .int (nI (σ 2))), (2, .int (nI (σ 1))), (0, .ref (ra)), (1, .ref (rr))] dL_act_517 (by decide) rfl ?_
        refine z_aload_n C dL_act_519 6 rfl ?_
        refine z_iload C dL_act_520 3 rfl ?_
        refine zh_callS C (aX_ok adK adV) hX (mL_repaired_bad l D κ adK adV Sa g ra (Sf 0) (Ha 0) a9 b9 p9 o9 σ M ((dr1.1) % (σ 1)) hls hr hv (by omega) (by omega)) gL_act_L_repaired rfl rfl rfl hdL_repaired ⟨(Nat.le_of_ble_eq_true rfl), (Nat.le_of_ble_eq_true rfl)⟩ (SW κ Sf f ++ ((HO κ Ha hf nx ct ++ hW κ Hs gh 10) ++ RAW κ rr (dr2.2))) (fun _ => SW κ Sf f ++ (kW κ Sa Ha Hs hf ra (Sf 0) a9 b9 p9 o9 g nx ct gh ++ RAW κ rr (dr2.2))) (pmA_r) (fun _ => pmA_r.symm) rfl (Nat.le_of_ble_eq_true rfl) dL_act_522 ⟨Nat.le_of_ble_eq_true rfl, Nat.le_of_ble_eq_true rfl⟩ (fun _ _ => ?_)
        refine z_istore C [(19, .int ((-3 : Int32))), (18, .int (nI (σ (5 + 6 * ((dr1.1) % (σ 1)) + 1)))), (17, .int (nI 1)), (5, .int (nI (x9.1))), (4, .int (nI ((dr1.1) % (σ 1)))), (3, .int (nI (σ 2))), (2, .int (nI (σ 1))), (0, .ref (ra)), (1, .ref (rr))] dL_act_525 (by decide) rfl ?_
        refine z_iload C dL_act_527 2 rfl ?_
        refine z_if_eq C 556 dL_act_529 (by decide) (fun q => absurd q (by decide)) (fun _ => ?_)
        refine z_iload C dL_act_532 0 rfl ?_
        refine z_bipush (v := (-3)) C dL_act_534 (by decide) ?_
        refine z_icmp_ne C 552 dL_act_536 (by decide) (fun q => absurd (rfl) q) (fun _ => ?_)
        refine z_aload_n C dL_act_539 7 rfl ?_
        refine z_iload C dL_act_540 4 rfl ?_
        refine zh_callS C (aX_ok adK adV) hX (mL_removed_ok l D κ Sa Ha Hs hf ra (Sf 0) a9 b9 p9 o9 g nx ct gh σ M ((dr1.1) % (σ 1)) hr hv hhf hj0.1 hj0.2.1 (by omega) adK adV) gL_act_L_removed rfl rfl rfl hdL_removed ⟨(Nat.le_of_ble_eq_true rfl), (Nat.le_of_ble_eq_true rfl)⟩ (SW κ Sf f ++ RAW κ rr (dr2.2)) (fun u => SW κ Sf f ++ (kW κ Sa Ha Hs hf ra (Sf 0) a9 b9 p9 o9 (u.2) (fwN nx) (mnN ct) (upS gh nx u.1) ++ RAW κ rr (dr2.2))) pmA_k (fun _ => pmA_k.symm) rfl (Nat.le_of_ble_eq_true rfl) dL_act_542 ⟨Nat.le_of_ble_eq_true rfl, Nat.le_of_ble_eq_true rfl⟩ (fun c1 hc1 => ?_)
        have hj1 := hj0.push hg0 hc1.1
        have gd1 : Good M T (upN (upN σ (5 + 6 * ((dr1.1) % (σ 1)) + 5) 0) 3 (σ 3 + σ (5 + 6 * ((dr1.1) % (σ 1)) + 5))) := hg0.rem (by omega)
        have hv1 := gd1.1
        have q11 : (upN (upN σ (5 + 6 * ((dr1.1) % (σ 1)) + 5) 0) 3 (σ 3 + σ (5 + 6 * ((dr1.1) % (σ 1)) + 5))) 1 = σ 1 := by first | exact psS_1 _ _ | (repeat rw [upN_n (by omega)])
        have q21 : (upN (upN σ (5 + 6 * ((dr1.1) % (σ 1)) + 5) 0) 3 (σ 3 + σ (5 + 6 * ((dr1.1) % (σ 1)) + 5))) 2 = σ 2 := by first | exact psS_2 _ _ | (repeat rw [upN_n (by omega)])
        have hbd1 := hv1.bd
        have e545 := lost_0 hg0 (b := ((dr1.1) % (σ 1))) (by omega)
        refine zn_if_ne C 552 dL_act_545 (by decide) (by omega) (fun _ => by exfalso; omega) (fun _ => ?_)
        refine z_iconst (v := nI 1) C dL_act_548 (by decide) ?_
        refine z_goto (tgt := 581) C dL_act_549 (by decide) ?_
        exact z_zret C hr9 hk (by decide) ((c1.2, fwN nx, mnN ct, upS gh nx c1.1, f, dr2.2)) (rfl) (⟨mnN_1, hj1.mo (by omega) (by omega) (by omega), ⟨_, hc1.2, gd1.mo (by omega) (by omega) (by omega)⟩⟩) (List.Perm.refl _) dL_act_581 (Nat.le_of_ble_eq_true rfl) (Nat.le_of_ble_eq_true rfl)
    · refine z_tableIn (off := 533) (tgt := 582) C dL_act_49 (by decide) (by decide) rfl (by decide) ?_
      refine z_iload_n C dL_act_582 3 rfl ?_
      refine zn_if_ne C 591 dL_act_583 (by decide) (by omega) (fun _ => ?_) (fun _ => by exfalso; omega)
      refine z_aload_n C dL_act_591 4 rfl ?_
      refine z_iload C dL_act_592 1 rfl ?_
      refine z_callV C (mX5_lostIn_ok l D κ Sa g ra (Sf 0) (Ha 0) a9 b9 p9 o9 σ M ((dr1.1) % (σ 1)) hr hv (by omega)) gL_act_X5_lostIn rfl rfl rfl hdX5_lostIn ⟨(Nat.le_of_ble_eq_true rfl), (Nat.le_of_ble_eq_true rfl)⟩ 13 rfl rfl (SW κ Sf f ++ ((HO κ Ha hf nx ct ++ hW κ Hs gh 10) ++ RAW κ rr (dr2.2))) (fun _ => SW κ Sf f ++ (kW κ Sa Ha Hs hf ra (Sf 0) a9 b9 p9 o9 g nx ct gh ++ RAW κ rr (dr2.2))) (pmA_r) (fun _ => pmA_r.symm) rfl (Nat.le_of_ble_eq_true rfl) dL_act_594 ⟨Nat.le_of_ble_eq_true rfl, Nat.le_of_ble_eq_true rfl⟩ (fun _ _ => ?_)
      refine z_istore C [(20, .int (nI (σ (5 + 6 * ((dr1.1) % (σ 1)) + 5)))), (5, .int (nI (x9.1))), (4, .int (nI ((dr1.1) % (σ 1)))), (3, .int (nI (σ 2))), (2, .int (nI (σ 1))), (0, .ref (ra)), (1, .ref (rr))] dL_act_597 (by decide) rfl ?_
      refine z_aload_n C dL_act_599 5 rfl ?_
      refine z_iload C dL_act_600 2 rfl ?_
      refine zh_callS C (aX_ok adK adV) hX (mL_removed_ok l D κ Sa Ha Hs hf ra (Sf 0) a9 b9 p9 o9 g nx ct gh σ M ((dr1.1) % (σ 1)) hr hv hhf hj0.1 hj0.2.1 (by omega) adK adV) gL_act_L_removed rfl rfl rfl hdL_removed ⟨(Nat.le_of_ble_eq_true rfl), (Nat.le_of_ble_eq_true rfl)⟩ (SW κ Sf f ++ RAW κ rr (dr2.2)) (fun u => SW κ Sf f ++ (kW κ Sa Ha Hs hf ra (Sf 0) a9 b9 p9 o9 (u.2) (fwN nx) (mnN ct) (upS gh nx u.1) ++ RAW κ rr (dr2.2))) pmA_k (fun _ => pmA_k.symm) rfl (Nat.le_of_ble_eq_true rfl) dL_act_602 ⟨Nat.le_of_ble_eq_true rfl, Nat.le_of_ble_eq_true rfl⟩ (fun c1 hc1 => ?_)
      have hj1 := hj0.push hg0 hc1.1
      have gd1 : Good M T (upN (upN σ (5 + 6 * ((dr1.1) % (σ 1)) + 5) 0) 3 (σ 3 + σ (5 + 6 * ((dr1.1) % (σ 1)) + 5))) := hg0.rem (by omega)
      have hv1 := gd1.1
      have q11 : (upN (upN σ (5 + 6 * ((dr1.1) % (σ 1)) + 5) 0) 3 (σ 3 + σ (5 + 6 * ((dr1.1) % (σ 1)) + 5))) 1 = σ 1 := by first | exact psS_1 _ _ | (repeat rw [upN_n (by omega)])
      have q21 : (upN (upN σ (5 + 6 * ((dr1.1) % (σ 1)) + 5) 0) 3 (σ 3 + σ (5 + 6 * ((dr1.1) % (σ 1)) + 5))) 2 = σ 2 := by first | exact psS_2 _ _ | (repeat rw [upN_n (by omega)])
      have hbd1 := hv1.bd
      refine z_iload C dL_act_605 0 rfl ?_
      refine z_icmp_ne C 627 dL_act_607 (by decide) (fun q => absurd (rfl) q) (fun _ => ?_)
      refine z_iload_n C dL_act_610 4 rfl ?_
      refine zn_if_eq C 623 dL_act_611 (by decide) (by omega) (fun _ => by exfalso; omega) (fun _ => ?_)
      refine z_aload_n C dL_act_614 5 rfl ?_
      refine z_iload C dL_act_615 2 rfl ?_
      refine z_callV C (mX5_lostIn_ok l D κ Sa (c1.2) ra (Sf 0) (Ha 0) a9 b9 p9 o9 (upN (upN σ (5 + 6 * ((dr1.1) % (σ 1)) + 5) 0) 3 (σ 3 + σ (5 + 6 * ((dr1.1) % (σ 1)) + 5))) M ((dr1.1) % (σ 1)) hc1.2 hv1 (by omega)) gL_act_X5_lostIn rfl rfl rfl hdX5_lostIn ⟨(Nat.le_of_ble_eq_true rfl), (Nat.le_of_ble_eq_true rfl)⟩ 13 rfl rfl (SW κ Sf f ++ ((HO κ Ha hf (fwN nx) (mnN ct) ++ hW κ Hs (upS gh nx c1.1) 10) ++ RAW κ rr (dr2.2))) (fun _ => SW κ Sf f ++ (kW κ Sa Ha Hs hf ra (Sf 0) a9 b9 p9 o9 (c1.2) (fwN nx) (mnN ct) (upS gh nx c1.1) ++ RAW κ rr (dr2.2))) (pmA_r) (fun _ => pmA_r.symm) rfl (Nat.le_of_ble_eq_true rfl) dL_act_617 ⟨Nat.le_of_ble_eq_true rfl, Nat.le_of_ble_eq_true rfl⟩ (fun _ _ => ?_)
      have e620 : upN (upN σ (5 + 6 * ((dr1.1) % (σ 1)) + 5) 0) 3 (σ 3 + σ (5 + 6 * ((dr1.1) % (σ 1)) + 5)) (5 + 6 * ((dr1.1) % (σ 1)) + 5) = 0 := by rw [upN_n (by omega), upN_s]
      refine zn_if_ne C 627 dL_act_620 (by decide) (by omega) (fun _ => by exfalso; omega) (fun _ => ?_)
      refine z_iconst (v := nI 1) C dL_act_623 (by decide) ?_
      refine z_goto (tgt := 628) C dL_act_624 (by decide) ?_
      exact z_zret C hr9 hk (by decide) ((c1.2, fwN nx, mnN ct, upS gh nx c1.1, f, dr2.2)) (rfl) (⟨mnN_1, hj1.mo (by omega) (by omega) (by omega), ⟨_, hc1.2, gd1.mo (by omega) (by omega) (by omega)⟩⟩) (List.Perm.refl _) dL_act_628 (Nat.le_of_ble_eq_true rfl) (Nat.le_of_ble_eq_true rfl)
    · refine z_tableOut (tgt := 629) C dL_act_49 (by decide) (by decide) ?_
      rcases Nat.eq_zero_or_pos (σ 2) with hz | hz
      · refine z_iload_n C dL_act_629 2 rfl ?_
        refine zn_if_ne C 637 dL_act_630 (by decide) (by omega) (fun _ => by exfalso; omega) (fun _ => ?_)
        refine z_iconst (v := nI 0) C dL_act_633 (by decide) ?_
        refine z_goto (tgt := 643) C dL_act_634 (by decide) ?_
        refine z_istore C [(21, .int (nI 0)), (5, .int (nI (x9.1))), (4, .int (nI ((dr1.1) % (σ 1)))), (3, .int (nI (σ 2))), (2, .int (nI (σ 1))), (0, .ref (ra)), (1, .ref (rr))] dL_act_643 (by decide) rfl ?_
        refine z_iconst (v := nI 1) C dL_act_645 (by decide) ?_
        refine z_aload_n C dL_act_646 6 rfl ?_
        refine z_callS C (mL_next l D κ rr (dr2.2)) gL_act_L_next rfl rfl rfl hdL_next ⟨(Nat.le_of_ble_eq_true rfl), (Nat.le_of_ble_eq_true rfl)⟩ (SW κ Sf f ++ kW κ Sa Ha Hs hf ra (Sf 0) a9 b9 p9 o9 g nx ct gh) (fun u => SW κ Sf f ++ (kW κ Sa Ha Hs hf ra (Sf 0) a9 b9 p9 o9 g nx ct gh ++ RAW κ rr (u.2))) pmA_q (fun _ => pmA_q.symm) rfl (Nat.le_of_ble_eq_true rfl) dL_act_647 ⟨Nat.le_of_ble_eq_true rfl, Nat.le_of_ble_eq_true rfl⟩ (fun dr3 hdr3 => ?_)
        refine z_bipush (v := nI 11) C dL_act_650 (by decide) ?_
        refine zn_irem C dL_act_652 (by omega) (by omega) (by omega) ?_
        refine zn_iadd C dL_act_653 ?_
        generalize hq654 : 1 + ((dr3.1) % 11) = mo
        have hb654 : 1 ≤ mo ∧ mo ≤ 11 := by omega
        refine z_istore C [(22, .int (nI mo)), (21, .int (nI 0)), (5, .int (nI (x9.1))), (4, .int (nI ((dr1.1) % (σ 1)))), (3, .int (nI (σ 2))), (2, .int (nI (σ 1))), (0, .ref (ra)), (1, .ref (rr))] dL_act_654 (by decide) rfl ?_
        refine z_aload_n C dL_act_656 6 rfl ?_
        refine z_iload C dL_act_657 2 rfl ?_
        refine z_iload C dL_act_659 0 rfl ?_
        refine zh_callS C (aX_ok adK adV) hX (mL_added_no l D κ adK adV Sa g ra (Sf 0) (Ha 0) a9 b9 p9 o9 σ M (nI (x9.1)) (nI mo) hls hr hv (by rw [hz]; exact isB_0 (by omega))) gL_act_L_added rfl rfl rfl hdL_added ⟨(Nat.le_of_ble_eq_true rfl), (Nat.le_of_ble_eq_true rfl)⟩ (SW κ Sf f ++ ((HO κ Ha hf nx ct ++ hW κ Hs gh 10) ++ RAW κ rr (dr3.2))) (fun _ => SW κ Sf f ++ (kW κ Sa Ha Hs hf ra (Sf 0) a9 b9 p9 o9 g nx ct gh ++ RAW κ rr (dr3.2))) (pmA_r) (fun _ => pmA_r.symm) rfl (Nat.le_of_ble_eq_true rfl) dL_act_661 ⟨Nat.le_of_ble_eq_true rfl, Nat.le_of_ble_eq_true rfl⟩ (fun _ _ => ?_)
        refine z_istore C [(23, .int ((-5 : Int32))), (22, .int (nI mo)), (21, .int (nI 0)), (5, .int (nI (x9.1))), (4, .int (nI ((dr1.1) % (σ 1)))), (3, .int (nI (σ 2))), (2, .int (nI (σ 1))), (0, .ref (ra)), (1, .ref (rr))] dL_act_664 (by decide) rfl ?_
        refine z_iload_n C dL_act_666 5 rfl ?_
        refine zn_if_ne C 675 dL_act_667 (by decide) (by omega) (fun _ => by exfalso; omega) (fun _ => ?_)
        refine z_bipush (v := (-5)) C dL_act_670 (by decide) ?_
        refine z_goto (tgt := 681) C dL_act_672 (by decide) ?_
        refine z_istore C [(24, .int ((-5 : Int32))), (23, .int ((-5 : Int32))), (22, .int (nI mo)), (21, .int (nI 0)), (5, .int (nI (x9.1))), (4, .int (nI ((dr1.1) % (σ 1)))), (3, .int (nI (σ 2))), (2, .int (nI (σ 1))), (0, .ref (ra)), (1, .ref (rr))] dL_act_681 (by decide) rfl ?_
        refine z_iload C dL_act_683 1 rfl ?_
        refine z_iload_n C dL_act_685 6 rfl ?_
        refine zn_if_ne C 694 dL_act_686 (by decide) (by omega) (fun _ => by exfalso; omega) (fun _ => ?_)
        refine z_bipush (v := (-5)) C dL_act_689 (by decide) ?_
        refine z_goto (tgt := 714) C dL_act_691 (by decide) ?_
        refine z_icmp_ne C 769 dL_act_714 (by decide) (fun q => absurd (rfl) q) (fun _ => ?_)
        refine z_aload_n C dL_act_717 8 rfl ?_
        refine z_iload C dL_act_718 4 rfl ?_
        refine z_iconst (v := nI 1) C dL_act_720 (by decide) ?_
        refine z_iload C dL_act_721 2 rfl ?_
        refine z_iconst (v := nI 5) C dL_act_723 (by decide) ?_
        refine zn_irem C dL_act_724 (by omega) (by omega) (by omega) ?_
        refine zn_iadd C dL_act_725 ?_
        refine zh_callS C (aX_ok adK adV) hX (mL_timed_no l D κ adK adV Sa g ra (Sf 0) (Ha 0) a9 b9 p9 o9 σ M (nI (x9.1)) (nI (1 + (mo % 5))) hls hr hv (by rw [hz]; exact isB_0 (by omega))) gL_act_L_timed rfl rfl rfl hdL_timed ⟨(Nat.le_of_ble_eq_true rfl), (Nat.le_of_ble_eq_true rfl)⟩ (SW κ Sf f ++ ((HO κ Ha hf nx ct ++ hW κ Hs gh 10) ++ RAW κ rr (dr3.2))) (fun _ => SW κ Sf f ++ (kW κ Sa Ha Hs hf ra (Sf 0) a9 b9 p9 o9 g nx ct gh ++ RAW κ rr (dr3.2))) (pmA_r) (fun _ => pmA_r.symm) rfl (Nat.le_of_ble_eq_true rfl) dL_act_726 ⟨Nat.le_of_ble_eq_true rfl, Nat.le_of_ble_eq_true rfl⟩ (fun _ _ => ?_)
        refine z_iload C dL_act_729 0 rfl ?_
        refine z_icmp_ne C 769 dL_act_731 (by decide) (fun q => absurd (rfl) q) (fun _ => ?_)
        refine z_iload_n C dL_act_734 6 rfl ?_
        refine zn_if_ne C 750 dL_act_735 (by decide) (by omega) (fun _ => by exfalso; omega) (fun _ => ?_)
        refine z_aload_n C dL_act_738 8 rfl ?_
        refine z_iload C dL_act_739 5 rfl ?_
        refine zh_callS C (aX_ok adK adV) hX (mL_removed_ok l D κ Sa Ha Hs hf ra (Sf 0) a9 b9 p9 o9 g nx ct gh σ M ((dr1.1) % (σ 1)) hr hv hhf hj0.1 hj0.2.1 (by omega) adK adV) gL_act_L_removed rfl rfl rfl hdL_removed ⟨(Nat.le_of_ble_eq_true rfl), (Nat.le_of_ble_eq_true rfl)⟩ (SW κ Sf f ++ RAW κ rr (dr3.2)) (fun u => SW κ Sf f ++ (kW κ Sa Ha Hs hf ra (Sf 0) a9 b9 p9 o9 (u.2) (fwN nx) (mnN ct) (upS gh nx u.1) ++ RAW κ rr (dr3.2))) pmA_k (fun _ => pmA_k.symm) rfl (Nat.le_of_ble_eq_true rfl) dL_act_741 ⟨Nat.le_of_ble_eq_true rfl, Nat.le_of_ble_eq_true rfl⟩ (fun c1 hc1 => ?_)
        have hj1 := hj0.push hg0 hc1.1
        have gd1 : Good M T (upN (upN σ (5 + 6 * ((dr1.1) % (σ 1)) + 5) 0) 3 (σ 3 + σ (5 + 6 * ((dr1.1) % (σ 1)) + 5))) := hg0.rem (by omega)
        have hv1 := gd1.1
        have q11 : (upN (upN σ (5 + 6 * ((dr1.1) % (σ 1)) + 5) 0) 3 (σ 3 + σ (5 + 6 * ((dr1.1) % (σ 1)) + 5))) 1 = σ 1 := by first | exact psS_1 _ _ | (repeat rw [upN_n (by omega)])
        have q21 : (upN (upN σ (5 + 6 * ((dr1.1) % (σ 1)) + 5) 0) 3 (σ 3 + σ (5 + 6 * ((dr1.1) % (σ 1)) + 5))) 2 = σ 2 := by first | exact psS_2 _ _ | (repeat rw [upN_n (by omega)])
        have hbd1 := hv1.bd
        refine zn_if_lt C 769 dL_act_744 (by decide) (by omega) ?_
        refine z_goto (tgt := 765) C dL_act_747 (by decide) ?_
        refine z_iconst (v := nI 1) C dL_act_765 (by decide) ?_
        refine z_goto (tgt := 770) C dL_act_766 (by decide) ?_
        exact z_zret C hr9 hk (by decide) ((c1.2, fwN nx, mnN ct, upS gh nx c1.1, f, dr3.2)) (rfl) (⟨mnN_1, hj1.mo (by omega) (by omega) (by omega), ⟨_, hc1.2, gd1.mo (by omega) (by omega) (by omega)⟩⟩) (List.Perm.refl _) dL_act_770 (Nat.le_of_ble_eq_true rfl) (Nat.le_of_ble_eq_true rfl)
      · refine z_iload_n C dL_act_629 2 rfl ?_
        refine zn_if_ne C 637 dL_act_630 (by decide) (by omega) (fun _ => ?_) (fun _ => by exfalso; omega)
        have htrn := hv.trn (t := (x9.1)) (by omega)
        refine z_aload_n C dL_act_637 4 rfl ?_
        refine z_iload C dL_act_638 0 rfl ?_
        refine z_callV C (mX5_wagonsOf_ok l D κ Sa g ra (Sf 0) (Ha 0) a9 b9 p9 o9 σ M (x9.1) hr hv (by omega)) gL_act_X5_wagonsOf rfl rfl rfl hdX5_wagonsOf ⟨(Nat.le_of_ble_eq_true rfl), (Nat.le_of_ble_eq_true rfl)⟩ 13 rfl rfl (SW κ Sf f ++ ((HO κ Ha hf nx ct ++ hW κ Hs gh 10) ++ RAW κ rr (dr2.2))) (fun _ => SW κ Sf f ++ (kW κ Sa Ha Hs hf ra (Sf 0) a9 b9 p9 o9 g nx ct gh ++ RAW κ rr (dr2.2))) (pmA_r) (fun _ => pmA_r.symm) rfl (Nat.le_of_ble_eq_true rfl) dL_act_640 ⟨Nat.le_of_ble_eq_true rfl, Nat.le_of_ble_eq_true rfl⟩ (fun _ _ => ?_)
        refine z_istore C [(21, .int (nI (σ (65 + 5 * (x9.1) + 0)))), (5, .int (nI (x9.1))), (4, .int (nI ((dr1.1) % (σ 1)))), (3, .int (nI (σ 2))), (2, .int (nI (σ 1))), (0, .ref (ra)), (1, .ref (rr))] dL_act_643 (by decide) rfl ?_
        refine z_iconst (v := nI 1) C dL_act_645 (by decide) ?_
        refine z_aload_n C dL_act_646 6 rfl ?_
        refine z_callS C (mL_next l D κ rr (dr2.2)) gL_act_L_next rfl rfl rfl hdL_next ⟨(Nat.le_of_ble_eq_true rfl), (Nat.le_of_ble_eq_true rfl)⟩ (SW κ Sf f ++ kW κ Sa Ha Hs hf ra (Sf 0) a9 b9 p9 o9 g nx ct gh) (fun u => SW κ Sf f ++ (kW κ Sa Ha Hs hf ra (Sf 0) a9 b9 p9 o9 g nx ct gh ++ RAW κ rr (u.2))) pmA_q (fun _ => pmA_q.symm) rfl (Nat.le_of_ble_eq_true rfl) dL_act_647 ⟨Nat.le_of_ble_eq_true rfl, Nat.le_of_ble_eq_true rfl⟩ (fun dr3 hdr3 => ?_)
        refine z_bipush (v := nI 11) C dL_act_650 (by decide) ?_
        refine zn_irem C dL_act_652 (by omega) (by omega) (by omega) ?_
        refine zn_iadd C dL_act_653 ?_
        generalize hq654 : 1 + ((dr3.1) % 11) = mo
        have hb654 : 1 ≤ mo ∧ mo ≤ 11 := by omega
        refine z_istore C [(22, .int (nI mo)), (21, .int (nI (σ (65 + 5 * (x9.1) + 0)))), (5, .int (nI (x9.1))), (4, .int (nI ((dr1.1) % (σ 1)))), (3, .int (nI (σ 2))), (2, .int (nI (σ 1))), (0, .ref (ra)), (1, .ref (rr))] dL_act_654 (by decide) rfl ?_
        rcases Nat.lt_or_ge 12 (σ (65 + 5 * (x9.1) + 0) + mo) with hlm | hlm
        · refine z_aload_n C dL_act_656 6 rfl ?_
          refine z_iload C dL_act_657 2 rfl ?_
          refine z_iload C dL_act_659 0 rfl ?_
          refine zh_callS C (aX_ok adK adV) hX (mL_added_lim l D κ adK adV Sa g ra (Sf 0) (Ha 0) a9 b9 p9 o9 σ M (x9.1) mo hls hr hv (by omega) (by omega) (by omega) (by omega)) gL_act_L_added rfl rfl rfl hdL_added ⟨(Nat.le_of_ble_eq_true rfl), (Nat.le_of_ble_eq_true rfl)⟩ (SW κ Sf f ++ ((HO κ Ha hf nx ct ++ hW κ Hs gh 10) ++ RAW κ rr (dr3.2))) (fun _ => SW κ Sf f ++ (kW κ Sa Ha Hs hf ra (Sf 0) a9 b9 p9 o9 g nx ct gh ++ RAW κ rr (dr3.2))) (pmA_r) (fun _ => pmA_r.symm) rfl (Nat.le_of_ble_eq_true rfl) dL_act_661 ⟨Nat.le_of_ble_eq_true rfl, Nat.le_of_ble_eq_true rfl⟩ (fun _ _ => ?_)
          refine z_istore C [(23, .int ((-3 : Int32))), (22, .int (nI mo)), (21, .int (nI (σ (65 + 5 * (x9.1) + 0)))), (5, .int (nI (x9.1))), (4, .int (nI ((dr1.1) % (σ 1)))), (3, .int (nI (σ 2))), (2, .int (nI (σ 1))), (0, .ref (ra)), (1, .ref (rr))] dL_act_664 (by decide) rfl ?_
          refine z_iload_n C dL_act_666 5 rfl ?_
          refine zn_if_ne C 675 dL_act_667 (by decide) (by omega) (fun _ => ?_) (fun _ => by exfalso; omega)
          refine z_aload_n C dL_act_675 7 rfl ?_
          refine z_iload C dL_act_676 3 rfl ?_
          refine z_callV C (mX5_topSpeedOf_ok l D κ Sa g ra (Sf 0) (Ha 0) a9 b9 p9 o9 σ M (x9.1) hr hv (by omega)) gL_act_X5_topSpeedOf rfl rfl rfl hdX5_topSpeedOf ⟨(Nat.le_of_ble_eq_true rfl), (Nat.le_of_ble_eq_true rfl)⟩ 13 rfl rfl (SW κ Sf f ++ ((HO κ Ha hf nx ct ++ hW κ Hs gh 10) ++ RAW κ rr (dr3.2))) (fun _ => SW κ Sf f ++ (kW κ Sa Ha Hs hf ra (Sf 0) a9 b9 p9 o9 g nx ct gh ++ RAW κ rr (dr3.2))) (pmA_r) (fun _ => pmA_r.symm) rfl (Nat.le_of_ble_eq_true rfl) dL_act_678 ⟨Nat.le_of_ble_eq_true rfl, Nat.le_of_ble_eq_true rfl⟩ (fun _ _ => ?_)
          refine z_istore C [(24, .int (nI (σ (65 + 5 * (x9.1) + 1)))), (23, .int ((-3 : Int32))), (22, .int (nI mo)), (21, .int (nI (σ (65 + 5 * (x9.1) + 0)))), (5, .int (nI (x9.1))), (4, .int (nI ((dr1.1) % (σ 1)))), (3, .int (nI (σ 2))), (2, .int (nI (σ 1))), (0, .ref (ra)), (1, .ref (rr))] dL_act_681 (by decide) rfl ?_
          refine z_iload C dL_act_683 1 rfl ?_
          refine z_iload_n C dL_act_685 6 rfl ?_
          refine zn_if_ne C 694 dL_act_686 (by decide) (by omega) (fun _ => ?_) (fun _ => by exfalso; omega)
          refine z_iload C dL_act_694 3 rfl ?_
          refine z_iload C dL_act_696 2 rfl ?_
          refine zn_iadd C dL_act_698 ?_
          refine z_bipush (v := nI 12) C dL_act_699 (by decide) ?_
          refine zn_icmp_le C 709 dL_act_701 (by decide) (by omega) (by omega) (fun _ => by exfalso; omega) (fun _ => ?_)
          refine z_bipush (v := (-3)) C dL_act_704 (by decide) ?_
          refine z_goto (tgt := 714) C dL_act_706 (by decide) ?_
          refine z_icmp_ne C 769 dL_act_714 (by decide) (fun q => absurd (rfl) q) (fun _ => ?_)
          refine z_aload_n C dL_act_717 8 rfl ?_
          refine z_iload C dL_act_718 4 rfl ?_
          refine z_iconst (v := nI 1) C dL_act_720 (by decide) ?_
          refine z_iload C dL_act_721 2 rfl ?_
          refine z_iconst (v := nI 5) C dL_act_723 (by decide) ?_
          refine zn_irem C dL_act_724 (by omega) (by omega) (by omega) ?_
          refine zn_iadd C dL_act_725 ?_
          refine zh_callS C (aX_ok adK adV) hX (mL_timed_ok l D κ Sa Ha Hs hf ra (Sf 0) a9 b9 p9 o9 g nx ct gh σ M (x9.1) (1 + (mo % 5)) hr hv hhf hj0.1 hj0.2.1 (by omega) (by omega) (by omega) adK adV) gL_act_L_timed rfl rfl rfl hdL_timed ⟨(Nat.le_of_ble_eq_true rfl), (Nat.le_of_ble_eq_true rfl)⟩ (SW κ Sf f ++ RAW κ rr (dr3.2)) (fun u => SW κ Sf f ++ (kW κ Sa Ha Hs hf ra (Sf 0) a9 b9 p9 o9 (u.2) (fwN nx) (mnN ct) (upS gh nx u.1) ++ RAW κ rr (dr3.2))) pmA_k (fun _ => pmA_k.symm) rfl (Nat.le_of_ble_eq_true rfl) dL_act_726 ⟨Nat.le_of_ble_eq_true rfl, Nat.le_of_ble_eq_true rfl⟩ (fun c1 hc1 => ?_)
          have hj1 := hj0.push hg0 hc1.1
          have gd1 : Good M T (upN σ (65 + 5 * (x9.1) + 1) (1 + (mo % 5))) := hg0.top (by omega) (by omega) (by omega)
          have hv1 := gd1.1
          have q11 : (upN σ (65 + 5 * (x9.1) + 1) (1 + (mo % 5))) 1 = σ 1 := by first | exact psS_1 _ _ | (repeat rw [upN_n (by omega)])
          have q21 : (upN σ (65 + 5 * (x9.1) + 1) (1 + (mo % 5))) 2 = σ 2 := by first | exact psS_2 _ _ | (repeat rw [upN_n (by omega)])
          have hbd1 := hv1.bd
          refine z_iload C dL_act_729 0 rfl ?_
          refine z_icmp_ne C 769 dL_act_731 (by decide) (fun q => absurd (rfl) q) (fun _ => ?_)
          refine z_iload_n C dL_act_734 6 rfl ?_
          refine zn_if_ne C 750 dL_act_735 (by decide) (by omega) (fun _ => ?_) (fun _ => by exfalso; omega)
          refine z_aload_n C dL_act_750 8 rfl ?_
          refine z_iload C dL_act_751 4 rfl ?_
          refine z_callV C (mX5_topSpeedOf_ok l D κ Sa (c1.2) ra (Sf 0) (Ha 0) a9 b9 p9 o9 (upN σ (65 + 5 * (x9.1) + 1) (1 + (mo % 5))) M (x9.1) hc1.2 hv1 (by omega)) gL_act_X5_topSpeedOf rfl rfl rfl hdX5_topSpeedOf ⟨(Nat.le_of_ble_eq_true rfl), (Nat.le_of_ble_eq_true rfl)⟩ 13 rfl rfl (SW κ Sf f ++ ((HO κ Ha hf (fwN nx) (mnN ct) ++ hW κ Hs (upS gh nx c1.1) 10) ++ RAW κ rr (dr3.2))) (fun _ => SW κ Sf f ++ (kW κ Sa Ha Hs hf ra (Sf 0) a9 b9 p9 o9 (c1.2) (fwN nx) (mnN ct) (upS gh nx c1.1) ++ RAW κ rr (dr3.2))) (pmA_r) (fun _ => pmA_r.symm) rfl (Nat.le_of_ble_eq_true rfl) dL_act_753 ⟨Nat.le_of_ble_eq_true rfl, Nat.le_of_ble_eq_true rfl⟩ (fun _ _ => ?_)
          refine z_iconst (v := nI 1) C dL_act_756 (by decide) ?_
          refine z_iload C dL_act_757 2 rfl ?_
          refine z_iconst (v := nI 5) C dL_act_759 (by decide) ?_
          refine zn_irem C dL_act_760 (by omega) (by omega) (by omega) ?_
          refine zn_iadd C dL_act_761 ?_
          refine z_icmp_ne C 769 dL_act_762 (by decide) (fun q => absurd (congrArg nI upN_s) q) (fun _ => ?_)
          refine z_iconst (v := nI 1) C dL_act_765 (by decide) ?_
          refine z_goto (tgt := 770) C dL_act_766 (by decide) ?_
          exact z_zret C hr9 hk (by decide) ((c1.2, fwN nx, mnN ct, upS gh nx c1.1, f, dr3.2)) (rfl) (⟨mnN_1, hj1.mo (by omega) (by omega) (by omega), ⟨_, hc1.2, gd1.mo (by omega) (by omega) (by omega)⟩⟩) (List.Perm.refl _) dL_act_770 (Nat.le_of_ble_eq_true rfl) (Nat.le_of_ble_eq_true rfl)
        · refine z_aload_n C dL_act_656 6 rfl ?_
          refine z_iload C dL_act_657 2 rfl ?_
          refine z_iload C dL_act_659 0 rfl ?_
          refine zh_callS C (aX_ok adK adV) hX (mL_added_ok l D κ Sa Ha Hs hf ra (Sf 0) a9 b9 p9 o9 g nx ct gh σ M (x9.1) mo hr hv hhf hj0.1 hj0.2.1 (by omega) (by omega) (by omega) (by omega) adK adV) gL_act_L_added rfl rfl rfl hdL_added ⟨(Nat.le_of_ble_eq_true rfl), (Nat.le_of_ble_eq_true rfl)⟩ (SW κ Sf f ++ RAW κ rr (dr3.2)) (fun u => SW κ Sf f ++ (kW κ Sa Ha Hs hf ra (Sf 0) a9 b9 p9 o9 (u.2) (fwN nx) (mnN ct) (upS gh nx u.1) ++ RAW κ rr (dr3.2))) pmA_k (fun _ => pmA_k.symm) rfl (Nat.le_of_ble_eq_true rfl) dL_act_661 ⟨Nat.le_of_ble_eq_true rfl, Nat.le_of_ble_eq_true rfl⟩ (fun c1 hc1 => ?_)
          have hj1 := hj0.push hg0 hc1.1
          have gd1 : Good M T (upN (upN σ (65 + 5 * (x9.1) + 0) (σ (65 + 5 * (x9.1) + 0) + mo)) 4 (σ 4 + mo)) := hg0.add (by omega) (by omega) (by omega)
          have hv1 := gd1.1
          have q11 : (upN (upN σ (65 + 5 * (x9.1) + 0) (σ (65 + 5 * (x9.1) + 0) + mo)) 4 (σ 4 + mo)) 1 = σ 1 := by first | exact psS_1 _ _ | (repeat rw [upN_n (by omega)])
          have q21 : (upN (upN σ (65 + 5 * (x9.1) + 0) (σ (65 + 5 * (x9.1) + 0) + mo)) 4 (σ 4 + mo)) 2 = σ 2 := by first | exact psS_2 _ _ | (repeat rw [upN_n (by omega)])
          have hbd1 := hv1.bd
          refine z_istore C [(23, .int (nI (σ (65 + 5 * (x9.1) + 0) + mo))), (22, .int (nI mo)), (21, .int (nI (σ (65 + 5 * (x9.1) + 0)))), (5, .int (nI (x9.1))), (4, .int (nI ((dr1.1) % (σ 1)))), (3, .int (nI (σ 2))), (2, .int (nI (σ 1))), (0, .ref (ra)), (1, .ref (rr))] dL_act_664 (by decide) rfl ?_
          refine z_iload_n C dL_act_666 5 rfl ?_
          refine zn_if_ne C 675 dL_act_667 (by decide) (by omega) (fun _ => ?_) (fun _ => by exfalso; omega)
          refine z_aload_n C dL_act_675 7 rfl ?_
          refine z_iload C dL_act_676 3 rfl ?_
          refine z_callV C (mX5_topSpeedOf_ok l D κ Sa (c1.2) ra (Sf 0) (Ha 0) a9 b9 p9 o9 (upN (upN σ (65 + 5 * (x9.1) + 0) (σ (65 + 5 * (x9.1) + 0) + mo)) 4 (σ 4 + mo)) M (x9.1) hc1.2 hv1 (by omega)) gL_act_X5_topSpeedOf rfl rfl rfl hdX5_topSpeedOf ⟨(Nat.le_of_ble_eq_true rfl), (Nat.le_of_ble_eq_true rfl)⟩ 13 rfl rfl (SW κ Sf f ++ ((HO κ Ha hf (fwN nx) (mnN ct) ++ hW κ Hs (upS gh nx c1.1) 10) ++ RAW κ rr (dr3.2))) (fun _ => SW κ Sf f ++ (kW κ Sa Ha Hs hf ra (Sf 0) a9 b9 p9 o9 (c1.2) (fwN nx) (mnN ct) (upS gh nx c1.1) ++ RAW κ rr (dr3.2))) (pmA_r) (fun _ => pmA_r.symm) rfl (Nat.le_of_ble_eq_true rfl) dL_act_678 ⟨Nat.le_of_ble_eq_true rfl, Nat.le_of_ble_eq_true rfl⟩ (fun _ _ => ?_)
          refine z_istore C [(24, .int (nI ((upN (upN σ (65 + 5 * (x9.1) + 0) (σ (65 + 5 * (x9.1) + 0) + mo)) 4 (σ 4 + mo)) (65 + 5 * (x9.1) + 1)))), (23, .int (nI (σ (65 + 5 * (x9.1) + 0) + mo))), (22, .int (nI mo)), (21, .int (nI (σ (65 + 5 * (x9.1) + 0)))), (5, .int (nI (x9.1))), (4, .int (nI ((dr1.1) % (σ 1)))), (3, .int (nI (σ 2))), (2, .int (nI (σ 1))), (0, .ref (ra)), (1, .ref (rr))] dL_act_681 (by decide) rfl ?_
          refine z_iload C dL_act_683 1 rfl ?_
          refine z_iload_n C dL_act_685 6 rfl ?_
          refine zn_if_ne C 694 dL_act_686 (by decide) (by omega) (fun _ => ?_) (fun _ => by exfalso; omega)
          refine z_iload C dL_act_694 3 rfl ?_
          refine z_iload C dL_act_696 2 rfl ?_
          refine zn_iadd C dL_act_698 ?_
          refine z_bipush (v := nI 12) C dL_act_699 (by decide) ?_
          refine zn_icmp_le C 709 dL_act_701 (by decide) (by omega) (by omega) (fun _ => ?_) (fun _ => by exfalso; omega)
          refine z_iload C dL_act_709 3 rfl ?_
          refine z_iload C dL_act_711 2 rfl ?_
          refine zn_iadd C dL_act_713 ?_
          refine z_icmp_ne C 769 dL_act_714 (by decide) (fun q => absurd (rfl) q) (fun _ => ?_)
          refine z_aload_n C dL_act_717 8 rfl ?_
          refine z_iload C dL_act_718 4 rfl ?_
          refine z_iconst (v := nI 1) C dL_act_720 (by decide) ?_
          refine z_iload C dL_act_721 2 rfl ?_
          refine z_iconst (v := nI 5) C dL_act_723 (by decide) ?_
          refine zn_irem C dL_act_724 (by omega) (by omega) (by omega) ?_
          refine zn_iadd C dL_act_725 ?_
          refine zh_callS C (aX_ok adK adV) hX (mL_timed_ok l D κ Sa Ha Hs hf ra (Sf 0) a9 b9 p9 o9 (c1.2) (fwN nx) (mnN ct) (upS gh nx c1.1) (upN (upN σ (65 + 5 * (x9.1) + 0) (σ (65 + 5 * (x9.1) + 0) + mo)) 4 (σ 4 + mo)) M (x9.1) (1 + (mo % 5)) hc1.2 hv1 hhf hj1.1 hj1.2.1 (by omega) (by omega) (by omega) adK adV) gL_act_L_timed rfl rfl rfl hdL_timed ⟨(Nat.le_of_ble_eq_true rfl), (Nat.le_of_ble_eq_true rfl)⟩ (SW κ Sf f ++ RAW κ rr (dr3.2)) (fun u => SW κ Sf f ++ (kW κ Sa Ha Hs hf ra (Sf 0) a9 b9 p9 o9 (u.2) (fwN (fwN nx)) (mnN (mnN ct)) (upS (upS gh nx c1.1) (fwN nx) u.1) ++ RAW κ rr (dr3.2))) pmA_k (fun _ => pmA_k.symm) rfl (Nat.le_of_ble_eq_true rfl) dL_act_726 ⟨Nat.le_of_ble_eq_true rfl, Nat.le_of_ble_eq_true rfl⟩ (fun c2 hc2 => ?_)
          have hj2 := hj1.push gd1 hc2.1
          have gd2 : Good M T (upN (upN (upN σ (65 + 5 * (x9.1) + 0) (σ (65 + 5 * (x9.1) + 0) + mo)) 4 (σ 4 + mo)) (65 + 5 * (x9.1) + 1) (1 + (mo % 5))) := gd1.top (by omega) (by omega) (by omega)
          have hv2 := gd2.1
          have q12 : (upN (upN (upN σ (65 + 5 * (x9.1) + 0) (σ (65 + 5 * (x9.1) + 0) + mo)) 4 (σ 4 + mo)) (65 + 5 * (x9.1) + 1) (1 + (mo % 5))) 1 = σ 1 := by first | exact psS_1 _ _ | (repeat rw [upN_n (by omega)])
          have q22 : (upN (upN (upN σ (65 + 5 * (x9.1) + 0) (σ (65 + 5 * (x9.1) + 0) + mo)) 4 (σ 4 + mo)) (65 + 5 * (x9.1) + 1) (1 + (mo % 5))) 2 = σ 2 := by first | exact psS_2 _ _ | (repeat rw [upN_n (by omega)])
          have hbd2 := hv2.bd
          refine z_iload C dL_act_729 0 rfl ?_
          refine z_icmp_ne C 769 dL_act_731 (by decide) (fun q => absurd (rfl) q) (fun _ => ?_)
          refine z_iload_n C dL_act_734 6 rfl ?_
          refine zn_if_ne C 750 dL_act_735 (by decide) (by omega) (fun _ => ?_) (fun _ => by exfalso; omega)
          refine z_aload_n C dL_act_750 8 rfl ?_
          refine z_iload C dL_act_751 4 rfl ?_
          refine z_callV C (mX5_topSpeedOf_ok l D κ Sa (c2.2) ra (Sf 0) (Ha 0) a9 b9 p9 o9 (upN (upN (upN σ (65 + 5 * (x9.1) + 0) (σ (65 + 5 * (x9.1) + 0) + mo)) 4 (σ 4 + mo)) (65 + 5 * (x9.1) + 1) (1 + (mo % 5))) M (x9.1) hc2.2 hv2 (by omega)) gL_act_X5_topSpeedOf rfl rfl rfl hdX5_topSpeedOf ⟨(Nat.le_of_ble_eq_true rfl), (Nat.le_of_ble_eq_true rfl)⟩ 13 rfl rfl (SW κ Sf f ++ ((HO κ Ha hf (fwN (fwN nx)) (mnN (mnN ct)) ++ hW κ Hs (upS (upS gh nx c1.1) (fwN nx) c2.1) 10) ++ RAW κ rr (dr3.2))) (fun _ => SW κ Sf f ++ (kW κ Sa Ha Hs hf ra (Sf 0) a9 b9 p9 o9 (c2.2) (fwN (fwN nx)) (mnN (mnN ct)) (upS (upS gh nx c1.1) (fwN nx) c2.1) ++ RAW κ rr (dr3.2))) (pmA_r) (fun _ => pmA_r.symm) rfl (Nat.le_of_ble_eq_true rfl) dL_act_753 ⟨Nat.le_of_ble_eq_true rfl, Nat.le_of_ble_eq_true rfl⟩ (fun _ _ => ?_)
          refine z_iconst (v := nI 1) C dL_act_756 (by decide) ?_
          refine z_iload C dL_act_757 2 rfl ?_
          refine z_iconst (v := nI 5) C dL_act_759 (by decide) ?_
          refine zn_irem C dL_act_760 (by omega) (by omega) (by omega) ?_
          refine zn_iadd C dL_act_761 ?_
          refine z_icmp_ne C 769 dL_act_762 (by decide) (fun q => absurd (congrArg nI upN_s) q) (fun _ => ?_)
          refine z_iconst (v := nI 1) C dL_act_765 (by decide) ?_
          refine z_goto (tgt := 770) C dL_act_766 (by decide) ?_
          exact z_zret C hr9 hk (by decide) ((c2.2, fwN (fwN nx), mnN (mnN ct), upS (upS gh nx c1.1) (fwN nx) c2.1, f, dr3.2)) (rfl) (⟨mnN_1, hj2.mo (by omega) (by omega) (by omega), ⟨_, hc2.2, gd2.mo (by omega) (by omega) (by omega)⟩⟩) (List.Perm.refl _) dL_act_770 (Nat.le_of_ble_eq_true rfl) (Nat.le_of_ble_eq_true rfl)
  refine z_iload_n C dL_act_26 1 rfl ?_
  refine zn_if_ne C 34 dL_act_27 (by decide) (by omega) (fun h15 => ?_) (fun h16 => ?_)
  · refine z_aload_n C dL_act_34 4 rfl ?_
    refine z_callS C (mL_next l D κ rr (dr1.2)) gL_act_L_next rfl rfl rfl hdL_next ⟨(Nat.le_of_ble_eq_true rfl), (Nat.le_of_ble_eq_true rfl)⟩ (SW κ Sf f ++ kW κ Sa Ha Hs hf ra (Sf 0) a9 b9 p9 o9 g nx ct gh) (fun u => SW κ Sf f ++ (kW κ Sa Ha Hs hf ra (Sf 0) a9 b9 p9 o9 g nx ct gh ++ RAW κ rr (u.2))) pmA_q (fun _ => pmA_q.symm) rfl (Nat.le_of_ble_eq_true rfl) dL_act_35 ⟨Nat.le_of_ble_eq_true rfl, Nat.le_of_ble_eq_true rfl⟩ (fun dr2 hdr2 => ?_)
    refine z_iload_n C dL_act_38 1 rfl ?_
    have hm39 := Nat.mod_lt (dr2.1) (show 0 < σ 2 by omega)
    refine zn_irem C dL_act_39 (by omega) (by omega) (by omega) ?_
    refine z_lv [0, 1, 2, 3, 4] rfl ?_
    exact cut40 ((dr2.1) % (σ 2), dr2.2) ⟨fun _ => by first | rfl | omega, fun _ => by omega⟩
  · refine z_iconst (v := nI 0) C dL_act_30 (by decide) ?_
    refine z_goto (tgt := 40) C dL_act_31 (by decide) ?_
    refine z_lv [0, 1, 2, 3, 4] rfl ?_
    exact cut40 (0, dr1.2) ⟨fun _ => by first | rfl | omega, fun _ => by omega⟩
theorem hdL_act : yL_act.cls ≠ "java/lang/invoke/MethodHandle" ∧ yL_act.cls ≠ "java/lang/invoke/VarHandle" ∧ (parseMethodDescriptor yL_act.desc).map (fun d => d.parameters.length) = some 2 := by decide +kernel
end LA
