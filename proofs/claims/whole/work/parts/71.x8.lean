section X8
theorem tI_p {x : Nat} (h : 0 < x) : tI x = nI (x - 1) := by
  cases x with
  | zero => exact absurd h (Nat.lt_irrefl _)
  | succ n => rfl
theorem wNum_lo {q : (Nat → Nat) × Nat} {n : Nat} (h : n ≤ 9) : wNum q n = wPut q (48 + n) := by
  simp only [wNum]
  rw [if_neg (by omega), Nat.mod_eq_of_lt (by omega)]
theorem wRing_le {σ : Nat → Nat} {M : Nat} (hv : Inv M σ) (q : (Nat → Nat) × Nat) : ∀ k, k ≤ σ 1 → (wRing σ q k).2 ≤ q.2 + 3 * k
  | 0, _ => Nat.le_refl _
  | k + 1, h => by
    have h1 := wRing_le hv q k (by omega)
    have h2 := (hv.blk (c := k) (by omega)).2.2.2.2.2.2.2.1
    show (wRep (wBk2 σ (wRing σ q k) k) (σ (5 + 6 * k + 5))).2 ≤ _
    rw [wRep_2]
    show (wRing σ q k).2 + 1 + 1 + _ ≤ _
    omega
theorem wPut_le {q : (Nat → Nat) × Nat} {x B : Nat} (h : q.2 ≤ B) : (wPut q x).2 ≤ B + 1 := Nat.succ_le_succ h
theorem wNum_le {q : (Nat → Nat) × Nat} {x B : Nat} (h : q.2 ≤ B) : (wNum q x).2 ≤ B + 2 := Nat.le_trans (wNum_2 q x) (Nat.add_le_add_right h 2)
theorem isB_le {n : Nat} {x : Int32} (hn : n ≤ 999) (h : isB (n + 1) x = false) (h0 : ¬ x < 0) : ¬ x ≤ nI n := by
  intro q
  obtain ⟨k, hk, rfl⟩ := nI_of (x := x) h0
  have h9 := (zq_le hk (by omega)).mp q
  rw [isB_k (by omega) (show k < n + 1 by omega)] at h
  cases h
set_option maxRecDepth 100000 in
set_option maxHeartbeats 4000000 in
theorem mX5_writeRing (l : Launch) (D : va_G) (κ : Nat → ClassId) (Sa Oa : Nat → Nat) (g : Nat → Nat → Nat) (ra f9 h9 a9 b9 p9 n : Nat) (ot : Nat → Nat) (σ : Nat → Nat) (M : Nat) (hr : Rep g σ) (hv : Inv M σ) : zM l yX5_writeRing wsX5_writeRing { frames := 2, cells := 0, slots := 0, locals := 42 } D (zTy κ) [.ref ra] (SW κ Sa g ++ (RC ra (Sa 0) f9 h9 a9 b9 p9 (Oa 0) ++ OW κ Oa n ot)) (S := Unit) (fun _ => some (.int (nI (wRing σ (ot, 0) (σ 1)).2))) (fun _ => True) (fun _ => SW κ Sa g ++ (RC ra (Sa 0) f9 h9 a9 b9 p9 (Oa 0) ++ OW κ Oa (wRing σ (ot, 0) (σ 1)).2 (wRing σ (ot, 0) (σ 1)).1)) 0 0 := by
  refine zM_of (cc := cX5_writeRing) (maxL := 4) (rt := (some .int)) [(0, .ref (ra))] (by decide +kernel) rfl (Nat.le_of_ble_eq_true rfl) rfl ?_
  intro p e s m args below meth c A C hr9 hk hnm
  have C : zC p s m args c cX5_writeRing 4 wsX5_writeRing RX5 D (zTy κ) A := C
  have hin5 : ∀ w ∈ wsX50, w ∈ wsX5_writeRing := fun w h => List.mem_cons_of_mem _ (List.mem_append_left _ (List.mem_append_left _ (List.mem_append_right _ h)))
  have hin1 : ∀ w ∈ wsX10, w ∈ wsX5_writeRing := fun w h => List.mem_cons_of_mem _ (List.mem_append_left _ (List.mem_append_right _ h))
  have hin4 : ∀ w ∈ wsX40, w ∈ wsX5_writeRing := fun w h => List.mem_cons_of_mem _ (List.mem_append_right _ h)
  have k46 : Cond.fieldLink RX5 46 "PeatRailway" "output" "LPeatRailway$Output;" ∈ wsX5_writeRing := by decide +kernel
  have k252 : Cond.fieldLink RX5 252 "PeatRailway$Output" "filled" "I" ∈ wsX5_writeRing := by decide +kernel
  have k10 : Cond.fieldLink RX5 10 "PeatRailway" "current" "LPeatRailway$State;" ∈ wsX5_writeRing := by decide +kernel
  have k107 : Cond.fieldLink RX5 107 "PeatRailway$State" "blockCount" "I" ∈ wsX5_writeRing := by decide +kernel
  have k135 : Cond.fieldLink RX5 135 "PeatRailway$State" "clear" "[Z" ∈ wsX5_writeRing := by decide +kernel
  have k139 : Cond.fieldLink RX5 139 "PeatRailway$State" "occupant" "[I" ∈ wsX5_writeRing := by decide +kernel
  have k142 : Cond.fieldLink RX5 142 "PeatRailway$State" "lost" "[I" ∈ wsX5_writeRing := by decide +kernel
  refine z_eq (ws' := SW κ Sa g ++ (RC ra (Sa 0) f9 h9 a9 b9 p9 (Oa 0) ++ OW κ Oa n ot)) ?_ rfl rfl rfl rfl
  have hn1 := hv.n1
  have hn2 := hv.n2
  refine z_aload_n C dX5_writeRing_0 0 rfl ?_
  refine z_get C hin5 13 rfl rfl 6 (by decide) k46 rfl dX5_writeRing_1 ?_
  refine z_iconst (v := nI 0) C dX5_writeRing_4 (by decide) ?_
  refine z_put C hin1 tyX1 tyX1_ok nmX1 14 rfl rfl 1 (by decide) k252 rfl rfl rfl (Nat.le_of_ble_eq_true rfl) dX5_writeRing_5 (SW κ Sa g ++ (RC ra (Sa 0) f9 h9 a9 b9 p9 (Oa 0) ++ OW κ Oa ((ot, 0)).2 ((ot, 0)).1)) rfl ?_
  have hq0 : ((ot, 0) : (Nat → Nat) × Nat).2 ≤ 0 := Nat.le_refl _
  refine z_iconst (v := nI 0) C dX5_writeRing_8 (by decide) ?_
  refine z_istore_n C [(1, .int (nI 0)), (0, .ref (ra))] dX5_writeRing_9 (by decide) rfl ?_
  refine z_lv [1, 0] rfl ?_
  refine z_loop (σ := Nat) (fun k => SW κ Sa g ++ (RC ra (Sa 0) f9 h9 a9 b9 p9 (Oa 0) ++ OW κ Oa (wRing σ (ot, 0) k).2 (wRing σ (ot, 0) k).1)) (fun k => [(0, .ref (ra)), (1, .int (nI k))]) (fun k => k ≤ σ 1) (fun k => σ 1 - k) (0) (Nat.zero_le _) rfl rfl ?_
  rintro k hI10 ih10
  have hqk := wRing_le hv (ot, 0) k hI10
  have hqk : (wRing σ (ot, 0) k).2 ≤ 30 := by simp only at hqk; omega
  refine z_iload_n C dX5_writeRing_10 1 rfl ?_
  refine z_aload_n C dX5_writeRing_11 0 rfl ?_
  refine z_get C hin5 13 rfl rfl 0 (by decide) k10 rfl dX5_writeRing_12 ?_
  refine zs_get_blockCount C hin4 (x := σ 1) k107 dX5_writeRing_15 hr.1.s1 ?_
  refine zn_icmp_ge C 118 dX5_writeRing_18 (by decide) (by omega) (by omega) (fun h1 => ?_) (fun h2 => ?_)
  · obtain rfl : k = σ 1 := by omega
    refine z_aload_n C dX5_writeRing_118 0 rfl ?_
    refine z_get C hin5 13 rfl rfl 6 (by decide) k46 rfl dX5_writeRing_119 ?_
    refine z_get C hin1 14 rfl rfl 1 (by decide) k252 rfl dX5_writeRing_122 ?_
    exact z_iret C hr9 hk (()) (rfl) (trivial) (List.Perm.of_eq rfl) dX5_writeRing_125 (Nat.le_refl _) (Nat.le_refl _)
  · have hb9 := hv.blk (c := k) (by omega)
    have htr9 := hv.tr k
    refine z_aload_n C dX5_writeRing_21 0 rfl ?_
    refine z_get C hin5 13 rfl rfl 6 (by decide) k46 rfl dX5_writeRing_22 ?_
    refine z_aload_n C dX5_writeRing_25 0 rfl ?_
    refine z_get C hin5 13 rfl rfl 0 (by decide) k10 rfl dX5_writeRing_26 ?_
    refine zs_get_clear C hin4 k135 dX5_writeRing_29 ?_
    refine z_iload_n C dX5_writeRing_32 1 rfl ?_
    refine zs_ald_clear C (x := σ (5 + 6 * k + 4)) (by omega) (hr.1.b8 (by omega)) dX5_writeRing_33 ?_
    refine zn_if_eq C 42 dX5_writeRing_34 (by decide) (by omega) (fun h3 => ?_) (fun h4 => ?_)
    · refine z_bipush (v := nI 45) C dX5_writeRing_42 (by decide) ?_
      refine z_callV C (mX1_put l D κ Oa (wRing σ (ot, 0) k).2 (wRing σ (ot, 0) k).1 (45) (by omega) (by omega)) gX5_writeRing_X1_put rfl rfl rfl hdX1_put ⟨Nat.le_of_ble_eq_true rfl, Nat.le_of_ble_eq_true rfl⟩ 0 rfl rfl (SW κ Sa g ++ RC ra (Sa 0) f9 h9 a9 b9 p9 (Oa 0)) (fun _ => SW κ Sa g ++ (RC ra (Sa 0) f9 h9 a9 b9 p9 (Oa 0) ++ OW κ Oa (wPut (wRing σ (ot, 0) k) (45)).2 (wPut (wRing σ (ot, 0) k) (45)).1)) pm_w (fun _ => pm_w.symm) rfl (Nat.le_of_ble_eq_true rfl) dX5_writeRing_44 ⟨Nat.zero_le _, Nat.zero_le _⟩ (fun _ _ => ?_)
      have hqb1 := wPut_le (x := 45) hqk
      refine z_aload_n C dX5_writeRing_47 0 rfl ?_
      refine z_get C hin5 13 rfl rfl 0 (by decide) k10 rfl dX5_writeRing_48 ?_
      refine zs_get_occupant C hin4 k139 dX5_writeRing_51 ?_
      refine z_iload_n C dX5_writeRing_54 1 rfl ?_
      refine zs_ald_occupant C (x := trAt σ k) (by omega) (hr.2 _ (by omega)) dX5_writeRing_55 ?_
      refine z_istore_n C [(2, .int (tI (trAt σ k))), (0, .ref (ra)), (1, .int (nI k))] dX5_writeRing_56 (by decide) rfl ?_
      refine z_iload_n C dX5_writeRing_57 0 rfl ?_
      refine z_iconst (v := (-1)) C dX5_writeRing_58 (by decide) ?_
      refine zt_icmp_ne C 74 dX5_writeRing_59 (by decide) (by omega) (fun h5 => ?_) (fun h6 => ?_)
      · refine z_aload_n C dX5_writeRing_74 1 rfl ?_
        refine z_get C hin5 13 rfl rfl 6 (by decide) k46 rfl dX5_writeRing_75 ?_
        refine z_iload_n C dX5_writeRing_78 0 rfl ?_
        rw [tI_p h5]
        refine z_callV C (mX1_putNumber l D κ Oa (wPut (wRing σ (ot, 0) k) (45)).2 (wPut (wRing σ (ot, 0) k) (45)).1 (trAt σ k - 1) (by omega) (by omega)) gX5_writeRing_X1_putNumber rfl rfl rfl hdX1_putNumber ⟨Nat.le_of_ble_eq_true rfl, Nat.le_of_ble_eq_true rfl⟩ 0 rfl rfl (SW κ Sa g ++ RC ra (Sa 0) f9 h9 a9 b9 p9 (Oa 0)) (fun _ => SW κ Sa g ++ (RC ra (Sa 0) f9 h9 a9 b9 p9 (Oa 0) ++ OW κ Oa (wNum (wPut (wRing σ (ot, 0) k) (45)) (trAt σ k - 1)).2 (wNum (wPut (wRing σ (ot, 0) k) (45)) (trAt σ k - 1)).1)) pm_w (fun _ => pm_w.symm) rfl (Nat.le_of_ble_eq_true rfl) dX5_writeRing_79 ⟨Nat.zero_le _, Nat.zero_le _⟩ (fun _ _ => ?_)
        have hqb2 := wNum_le (x := trAt σ k - 1) hqb1
        have hbk : wBk2 σ (wRing σ (ot, 0) k) k = wNum (wPut (wRing σ (ot, 0) k) (45)) (trAt σ k - 1) := by
          simp only [wBk2]
          rw [if_neg (by omega), if_neg (by omega), wNum_lo (by omega)]
        refine z_eq (ws' := SW κ Sa g ++ (RC ra (Sa 0) f9 h9 a9 b9 p9 (Oa 0) ++ OW κ Oa (wBk2 σ (wRing σ (ot, 0) k) k).2 (wBk2 σ (wRing σ (ot, 0) k) k).1)) ?_ (by rw [hbk]) rfl rfl rfl
        refine z_iconst (v := nI 0) C dX5_writeRing_82 (by decide) ?_
        refine z_istore_n C [(3, .int (nI 0)), (2, .int (nI (trAt σ k - 1))), (0, .ref (ra)), (1, .int (nI k))] dX5_writeRing_83 (by decide) rfl ?_
        refine z_lv [2, 3, 0] rfl ?_
        refine z_loop (σ := Nat) (fun j => SW κ Sa g ++ (RC ra (Sa 0) f9 h9 a9 b9 p9 (Oa 0) ++ OW κ Oa (wRep (wBk2 σ (wRing σ (ot, 0) k) k) j).2 (wRep (wBk2 σ (wRing σ (ot, 0) k) k) j).1)) (fun j => [(0, .ref (ra)), (1, .int (nI k)), (3, .int (nI j))]) (fun j => j ≤ σ (5 + 6 * k + 5)) (fun j => σ (5 + 6 * k + 5) - j) (0) (Nat.zero_le _) rfl rfl ?_
        rintro j hI84 ih84
        have hqj : (wRep (wBk2 σ (wRing σ (ot, 0) k) k) j).2 ≤ 40 := by
          rw [wRep_2]
          show (wRing σ (ot, 0) k).2 + 1 + 1 + j ≤ 40
          omega
        refine z_iload_n C dX5_writeRing_84 2 rfl ?_
        refine z_aload_n C dX5_writeRing_85 0 rfl ?_
        refine z_get C hin5 13 rfl rfl 0 (by decide) k10 rfl dX5_writeRing_86 ?_
        refine zs_get_lost C hin4 k142 dX5_writeRing_89 ?_
        refine z_iload_n C dX5_writeRing_92 1 rfl ?_
        refine zs_ald_lost C (x := σ (5 + 6 * k + 5)) (by omega) (hr.1.b9 (by omega)) dX5_writeRing_93 ?_
        refine zn_icmp_ge C 112 dX5_writeRing_94 (by decide) (by omega) (by omega) (fun h7 => ?_) (fun h8 => ?_)
        · obtain rfl : j = σ (5 + 6 * k + 5) := by omega
          refine z_eq (ws' := SW κ Sa g ++ (RC ra (Sa 0) f9 h9 a9 b9 p9 (Oa 0) ++ OW κ Oa (wRing σ (ot, 0) (k + 1)).2 (wRing σ (ot, 0) (k + 1)).1)) ?_ rfl rfl rfl rfl
          refine zn_iinc (n := 1) C [(1, .int (nI (k + 1))), (0, .ref (ra)), (3, .int (nI (σ (5 + 6 * k + 5))))] dX5_writeRing_112 1 rfl (by decide) rfl ?_
          refine z_goto (tgt := 10) C dX5_writeRing_115 (by decide) ?_
          refine z_lv [1, 0] rfl ?_
          exact ih10 (k + 1) (by omega) (by omega)
        · refine z_aload_n C dX5_writeRing_97 0 rfl ?_
          refine z_get C hin5 13 rfl rfl 6 (by decide) k46 rfl dX5_writeRing_98 ?_
          refine z_bipush (v := nI 119) C dX5_writeRing_101 (by decide) ?_
          refine z_callV C (mX1_put l D κ Oa (wRep (wBk2 σ (wRing σ (ot, 0) k) k) j).2 (wRep (wBk2 σ (wRing σ (ot, 0) k) k) j).1 (119) (by omega) (by omega)) gX5_writeRing_X1_put rfl rfl rfl hdX1_put ⟨Nat.le_of_ble_eq_true rfl, Nat.le_of_ble_eq_true rfl⟩ 0 rfl rfl (SW κ Sa g ++ RC ra (Sa 0) f9 h9 a9 b9 p9 (Oa 0)) (fun _ => SW κ Sa g ++ (RC ra (Sa 0) f9 h9 a9 b9 p9 (Oa 0) ++ OW κ Oa (wPut (wRep (wBk2 σ (wRing σ (ot, 0) k) k) j) (119)).2 (wPut (wRep (wBk2 σ (wRing σ (ot, 0) k) k) j) (119)).1)) pm_w (fun _ => pm_w.symm) rfl (Nat.le_of_ble_eq_true rfl) dX5_writeRing_103 ⟨Nat.zero_le _, Nat.zero_le _⟩ (fun _ _ => ?_)
          have hqb3 := wPut_le (x := 119) hqj
          refine zn_iinc (n := 1) C [(3, .int (nI (j + 1))), (0, .ref (ra)), (1, .int (nI k))] dX5_writeRing_106 2 rfl (by decide) rfl ?_
          refine z_goto (tgt := 84) C dX5_writeRing_109 (by decide) ?_
          refine z_lv [1, 2, 0] rfl ?_
          exact ih84 (j + 1) (by omega) (by omega)
      · refine z_aload_n C dX5_writeRing_62 1 rfl ?_
        refine z_get C hin5 13 rfl rfl 6 (by decide) k46 rfl dX5_writeRing_63 ?_
        refine z_bipush (v := nI 95) C dX5_writeRing_66 (by decide) ?_
        refine z_callV C (mX1_put l D κ Oa (wPut (wRing σ (ot, 0) k) (45)).2 (wPut (wRing σ (ot, 0) k) (45)).1 (95) (by omega) (by omega)) gX5_writeRing_X1_put rfl rfl rfl hdX1_put ⟨Nat.le_of_ble_eq_true rfl, Nat.le_of_ble_eq_true rfl⟩ 0 rfl rfl (SW κ Sa g ++ RC ra (Sa 0) f9 h9 a9 b9 p9 (Oa 0)) (fun _ => SW κ Sa g ++ (RC ra (Sa 0) f9 h9 a9 b9 p9 (Oa 0) ++ OW κ Oa (wPut (wPut (wRing σ (ot, 0) k) (45)) (95)).2 (wPut (wPut (wRing σ (ot, 0) k) (45)) (95)).1)) pm_w (fun _ => pm_w.symm) rfl (Nat.le_of_ble_eq_true rfl) dX5_writeRing_68 ⟨Nat.zero_le _, Nat.zero_le _⟩ (fun _ _ => ?_)
        have hqb2 := wPut_le (x := 95) hqb1
        refine z_goto (tgt := 82) C dX5_writeRing_71 (by decide) ?_
        have hbk : wBk2 σ (wRing σ (ot, 0) k) k = wPut (wPut (wRing σ (ot, 0) k) (45)) (95) := by
          simp only [wBk2]
          rw [if_neg (by omega), if_pos (by omega)]
        refine z_eq (ws' := SW κ Sa g ++ (RC ra (Sa 0) f9 h9 a9 b9 p9 (Oa 0) ++ OW κ Oa (wBk2 σ (wRing σ (ot, 0) k) k).2 (wBk2 σ (wRing σ (ot, 0) k) k).1)) ?_ (by rw [hbk]) rfl rfl rfl
        refine z_iconst (v := nI 0) C dX5_writeRing_82 (by decide) ?_
        refine z_istore_n C [(3, .int (nI 0)), (2, .int (tI (trAt σ k))), (0, .ref (ra)), (1, .int (nI k))] dX5_writeRing_83 (by decide) rfl ?_
        refine z_lv [2, 3, 0] rfl ?_
        refine z_loop (σ := Nat) (fun j => SW κ Sa g ++ (RC ra (Sa 0) f9 h9 a9 b9 p9 (Oa 0) ++ OW κ Oa (wRep (wBk2 σ (wRing σ (ot, 0) k) k) j).2 (wRep (wBk2 σ (wRing σ (ot, 0) k) k) j).1)) (fun j => [(0, .ref (ra)), (1, .int (nI k)), (3, .int (nI j))]) (fun j => j ≤ σ (5 + 6 * k + 5)) (fun j => σ (5 + 6 * k + 5) - j) (0) (Nat.zero_le _) rfl rfl ?_
        rintro j hI84 ih84
        have hqj : (wRep (wBk2 σ (wRing σ (ot, 0) k) k) j).2 ≤ 40 := by
          rw [wRep_2]
          show (wRing σ (ot, 0) k).2 + 1 + 1 + j ≤ 40
          omega
        refine z_iload_n C dX5_writeRing_84 2 rfl ?_
        refine z_aload_n C dX5_writeRing_85 0 rfl ?_
        refine z_get C hin5 13 rfl rfl 0 (by decide) k10 rfl dX5_writeRing_86 ?_
        refine zs_get_lost C hin4 k142 dX5_writeRing_89 ?_
        refine z_iload_n C dX5_writeRing_92 1 rfl ?_
        refine zs_ald_lost C (x := σ (5 + 6 * k + 5)) (by omega) (hr.1.b9 (by omega)) dX5_writeRing_93 ?_
        refine zn_icmp_ge C 112 dX5_writeRing_94 (by decide) (by omega) (by omega) (fun h10 => ?_) (fun h11 => ?_)
        · obtain rfl : j = σ (5 + 6 * k + 5) := by omega
          refine z_eq (ws' := SW κ Sa g ++ (RC ra (Sa 0) f9 h9 a9 b9 p9 (Oa 0) ++ OW κ Oa (wRing σ (ot, 0) (k + 1)).2 (wRing σ (ot, 0) (k + 1)).1)) ?_ rfl rfl rfl rfl
          refine zn_iinc (n := 1) C [(1, .int (nI (k + 1))), (0, .ref (ra)), (3, .int (nI (σ (5 + 6 * k + 5))))] dX5_writeRing_112 1 rfl (by decide) rfl ?_
          refine z_goto (tgt := 10) C dX5_writeRing_115 (by decide) ?_
          refine z_lv [1, 0] rfl ?_
          exact ih10 (k + 1) (by omega) (by omega)
        · refine z_aload_n C dX5_writeRing_97 0 rfl ?_
          refine z_get C hin5 13 rfl rfl 6 (by decide) k46 rfl dX5_writeRing_98 ?_
          refine z_bipush (v := nI 119) C dX5_writeRing_101 (by decide) ?_
          refine z_callV C (mX1_put l D κ Oa (wRep (wBk2 σ (wRing σ (ot, 0) k) k) j).2 (wRep (wBk2 σ (wRing σ (ot, 0) k) k) j).1 (119) (by omega) (by omega)) gX5_writeRing_X1_put rfl rfl rfl hdX1_put ⟨Nat.le_of_ble_eq_true rfl, Nat.le_of_ble_eq_true rfl⟩ 0 rfl rfl (SW κ Sa g ++ RC ra (Sa 0) f9 h9 a9 b9 p9 (Oa 0)) (fun _ => SW κ Sa g ++ (RC ra (Sa 0) f9 h9 a9 b9 p9 (Oa 0) ++ OW κ Oa (wPut (wRep (wBk2 σ (wRing σ (ot, 0) k) k) j) (119)).2 (wPut (wRep (wBk2 σ (wRing σ (ot, 0) k) k) j) (119)).1)) pm_w (fun _ => pm_w.symm) rfl (Nat.le_of_ble_eq_true rfl) dX5_writeRing_103 ⟨Nat.zero_le _, Nat.zero_le _⟩ (fun _ _ => ?_)
          have hqb3 := wPut_le (x := 119) hqj
          refine zn_iinc (n := 1) C [(3, .int (nI (j + 1))), (0, .ref (ra)), (1, .int (nI k))] dX5_writeRing_106 2 rfl (by decide) rfl ?_
          refine z_goto (tgt := 84) C dX5_writeRing_109 (by decide) ?_
          refine z_lv [1, 2, 0] rfl ?_
          exact ih84 (j + 1) (by omega) (by omega)
    · refine z_bipush (v := nI 43) C dX5_writeRing_37 (by decide) ?_
      refine z_goto (tgt := 44) C dX5_writeRing_39 (by decide) ?_
      refine z_callV C (mX1_put l D κ Oa (wRing σ (ot, 0) k).2 (wRing σ (ot, 0) k).1 (43) (by omega) (by omega)) gX5_writeRing_X1_put rfl rfl rfl hdX1_put ⟨Nat.le_of_ble_eq_true rfl, Nat.le_of_ble_eq_true rfl⟩ 0 rfl rfl (SW κ Sa g ++ RC ra (Sa 0) f9 h9 a9 b9 p9 (Oa 0)) (fun _ => SW κ Sa g ++ (RC ra (Sa 0) f9 h9 a9 b9 p9 (Oa 0) ++ OW κ Oa (wPut (wRing σ (ot, 0) k) (43)).2 (wPut (wRing σ (ot, 0) k) (43)).1)) pm_w (fun _ => pm_w.symm) rfl (Nat.le_of_ble_eq_true rfl) dX5_writeRing_44 ⟨Nat.zero_le _, Nat.zero_le _⟩ (fun _ _ => ?_)
      have hqb1 := wPut_le (x := 43) hqk
      refine z_aload_n C dX5_writeRing_47 0 rfl ?_
      refine z_get C hin5 13 rfl rfl 0 (by decide) k10 rfl dX5_writeRing_48 ?_
      refine zs_get_occupant C hin4 k139 dX5_writeRing_51 ?_
      refine z_iload_n C dX5_writeRing_54 1 rfl ?_
      refine zs_ald_occupant C (x := trAt σ k) (by omega) (hr.2 _ (by omega)) dX5_writeRing_55 ?_
      refine z_istore_n C [(2, .int (tI (trAt σ k))), (0, .ref (ra)), (1, .int (nI k))] dX5_writeRing_56 (by decide) rfl ?_
      refine z_iload_n C dX5_writeRing_57 0 rfl ?_
      refine z_iconst (v := (-1)) C dX5_writeRing_58 (by decide) ?_
      refine zt_icmp_ne C 74 dX5_writeRing_59 (by decide) (by omega) (fun h12 => ?_) (fun h13 => ?_)
      · refine z_aload_n C dX5_writeRing_74 1 rfl ?_
        refine z_get C hin5 13 rfl rfl 6 (by decide) k46 rfl dX5_writeRing_75 ?_
        refine z_iload_n C dX5_writeRing_78 0 rfl ?_
        rw [tI_p h12]
        refine z_callV C (mX1_putNumber l D κ Oa (wPut (wRing σ (ot, 0) k) (43)).2 (wPut (wRing σ (ot, 0) k) (43)).1 (trAt σ k - 1) (by omega) (by omega)) gX5_writeRing_X1_putNumber rfl rfl rfl hdX1_putNumber ⟨Nat.le_of_ble_eq_true rfl, Nat.le_of_ble_eq_true rfl⟩ 0 rfl rfl (SW κ Sa g ++ RC ra (Sa 0) f9 h9 a9 b9 p9 (Oa 0)) (fun _ => SW κ Sa g ++ (RC ra (Sa 0) f9 h9 a9 b9 p9 (Oa 0) ++ OW κ Oa (wNum (wPut (wRing σ (ot, 0) k) (43)) (trAt σ k - 1)).2 (wNum (wPut (wRing σ (ot, 0) k) (43)) (trAt σ k - 1)).1)) pm_w (fun _ => pm_w.symm) rfl (Nat.le_of_ble_eq_true rfl) dX5_writeRing_79 ⟨Nat.zero_le _, Nat.zero_le _⟩ (fun _ _ => ?_)
        have hqb2 := wNum_le (x := trAt σ k - 1) hqb1
        have hbk : wBk2 σ (wRing σ (ot, 0) k) k = wNum (wPut (wRing σ (ot, 0) k) (43)) (trAt σ k - 1) := by
          simp only [wBk2]
          rw [if_pos (by omega), if_neg (by omega), wNum_lo (by omega)]
        refine z_eq (ws' := SW κ Sa g ++ (RC ra (Sa 0) f9 h9 a9 b9 p9 (Oa 0) ++ OW κ Oa (wBk2 σ (wRing σ (ot, 0) k) k).2 (wBk2 σ (wRing σ (ot, 0) k) k).1)) ?_ (by rw [hbk]) rfl rfl rfl
        refine z_iconst (v := nI 0) C dX5_writeRing_82 (by decide) ?_
        refine z_istore_n C [(3, .int (nI 0)), (2, .int (nI (trAt σ k - 1))), (0, .ref (ra)), (1, .int (nI k))] dX5_writeRing_83 (by decide) rfl ?_
        refine z_lv [2, 3, 0] rfl ?_
        refine z_loop (σ := Nat) (fun j => SW κ Sa g ++ (RC ra (Sa 0) f9 h9 a9 b9 p9 (Oa 0) ++ OW κ Oa (wRep (wBk2 σ (wRing σ (ot, 0) k) k) j).2 (wRep (wBk2 σ (wRing σ (ot, 0) k) k) j).1)) (fun j => [(0, .ref (ra)), (1, .int (nI k)), (3, .int (nI j))]) (fun j => j ≤ σ (5 + 6 * k + 5)) (fun j => σ (5 + 6 * k + 5) - j) (0) (Nat.zero_le _) rfl rfl ?_
        rintro j hI84 ih84
        have hqj : (wRep (wBk2 σ (wRing σ (ot, 0) k) k) j).2 ≤ 40 := by
          rw [wRep_2]
          show (wRing σ (ot, 0) k).2 + 1 + 1 + j ≤ 40
          omega
        refine z_iload_n C dX5_writeRing_84 2 rfl ?_
        refine z_aload_n C dX5_writeRing_85 0 rfl ?_
        refine z_get C hin5 13 rfl rfl 0 (by decide) k10 rfl dX5_writeRing_86 ?_
        refine zs_get_lost C hin4 k142 dX5_writeRing_89 ?_
        refine z_iload_n C dX5_writeRing_92 1 rfl ?_
        refine zs_ald_lost C (x := σ (5 + 6 * k + 5)) (by omega) (hr.1.b9 (by omega)) dX5_writeRing_93 ?_
        refine zn_icmp_ge C 112 dX5_writeRing_94 (by decide) (by omega) (by omega) (fun h14 => ?_) (fun h15 => ?_)
        · obtain rfl : j = σ (5 + 6 * k + 5) := by omega
          refine z_eq (ws' := SW κ Sa g ++ (RC ra (Sa 0) f9 h9 a9 b9 p9 (Oa 0) ++ OW κ Oa (wRing σ (ot, 0) (k + 1)).2 (wRing σ (ot, 0) (k + 1)).1)) ?_ rfl rfl rfl rfl
          refine zn_iinc (n := 1) C [(1, .int (nI (k + 1))), (0, .ref (ra)), (3, .int (nI (σ (5 + 6 * k + 5))))] dX5_writeRing_112 1 rfl (by decide) rfl ?_
          refine z_goto (tgt := 10) C dX5_writeRing_115 (by decide) ?_
          refine z_lv [1, 0] rfl ?_
          exact ih10 (k + 1) (by omega) (by omega)
        · refine z_aload_n C dX5_writeRing_97 0 rfl ?_
          refine z_get C hin5 13 rfl rfl 6 (by decide) k46 rfl dX5_writeRing_98 ?_
          refine z_bipush (v := nI 119) C dX5_writeRing_101 (by decide) ?_
          refine z_callV C (mX1_put l D κ Oa (wRep (wBk2 σ (wRing σ (ot, 0) k) k) j).2 (wRep (wBk2 σ (wRing σ (ot, 0) k) k) j).1 (119) (by omega) (by omega)) gX5_writeRing_X1_put rfl rfl rfl hdX1_put ⟨Nat.le_of_ble_eq_true rfl, Nat.le_of_ble_eq_true rfl⟩ 0 rfl rfl (SW κ Sa g ++ RC ra (Sa 0) f9 h9 a9 b9 p9 (Oa 0)) (fun _ => SW κ Sa g ++ (RC ra (Sa 0) f9 h9 a9 b9 p9 (Oa 0) ++ OW κ Oa (wPut (wRep (wBk2 σ (wRing σ (ot, 0) k) k) j) (119)).2 (wPut (wRep (wBk2 σ (wRing σ (ot, 0) k) k) j) (119)).1)) pm_w (fun _ => pm_w.symm) rfl (Nat.le_of_ble_eq_true rfl) dX5_writeRing_103 ⟨Nat.zero_le _, Nat.zero_le _⟩ (fun _ _ => ?_)
          have hqb3 := wPut_le (x := 119) hqj
          refine zn_iinc (n := 1) C [(3, .int (nI (j + 1))), (0, .ref (ra)), (1, .int (nI k))] dX5_writeRing_106 2 rfl (by decide) rfl ?_
          refine z_goto (tgt := 84) C dX5_writeRing_109 (by decide) ?_
          refine z_lv [1, 2, 0] rfl ?_
          exact ih84 (j + 1) (by omega) (by omega)
      · refine z_aload_n C dX5_writeRing_62 1 rfl ?_
        refine z_get C hin5 13 rfl rfl 6 (by decide) k46 rfl dX5_writeRing_63 ?_
        refine z_bipush (v := nI 95) C dX5_writeRing_66 (by decide) ?_
        refine z_callV C (mX1_put l D κ Oa (wPut (wRing σ (ot, 0) k) (43)).2 (wPut (wRing σ (ot, 0) k) (43)).1 (95) (by omega) (by omega)) gX5_writeRing_X1_put rfl rfl rfl hdX1_put ⟨Nat.le_of_ble_eq_true rfl, Nat.le_of_ble_eq_true rfl⟩ 0 rfl rfl (SW κ Sa g ++ RC ra (Sa 0) f9 h9 a9 b9 p9 (Oa 0)) (fun _ => SW κ Sa g ++ (RC ra (Sa 0) f9 h9 a9 b9 p9 (Oa 0) ++ OW κ Oa (wPut (wPut (wRing σ (ot, 0) k) (43)) (95)).2 (wPut (wPut (wRing σ (ot, 0) k) (43)) (95)).1)) pm_w (fun _ => pm_w.symm) rfl (Nat.le_of_ble_eq_true rfl) dX5_writeRing_68 ⟨Nat.zero_le _, Nat.zero_le _⟩ (fun _ _ => ?_)
        have hqb2 := wPut_le (x := 95) hqb1
        refine z_goto (tgt := 82) C dX5_writeRing_71 (by decide) ?_
        have hbk : wBk2 σ (wRing σ (ot, 0) k) k = wPut (wPut (wRing σ (ot, 0) k) (43)) (95) := by
          simp only [wBk2]
          rw [if_pos (by omega), if_pos (by omega)]
        refine z_eq (ws' := SW κ Sa g ++ (RC ra (Sa 0) f9 h9 a9 b9 p9 (Oa 0) ++ OW κ Oa (wBk2 σ (wRing σ (ot, 0) k) k).2 (wBk2 σ (wRing σ (ot, 0) k) k).1)) ?_ (by rw [hbk]) rfl rfl rfl
        refine z_iconst (v := nI 0) C dX5_writeRing_82 (by decide) ?_
        refine z_istore_n C [(3, .int (nI 0)), (2, .int (tI (trAt σ k))), (0, .ref (ra)), (1, .int (nI k))] dX5_writeRing_83 (by decide) rfl ?_
        refine z_lv [2, 3, 0] rfl ?_
        refine z_loop (σ := Nat) (fun j => SW κ Sa g ++ (RC ra (Sa 0) f9 h9 a9 b9 p9 (Oa 0) ++ OW κ Oa (wRep (wBk2 σ (wRing σ (ot, 0) k) k) j).2 (wRep (wBk2 σ (wRing σ (ot, 0) k) k) j).1)) (fun j => [(0, .ref (ra)), (1, .int (nI k)), (3, .int (nI j))]) (fun j => j ≤ σ (5 + 6 * k + 5)) (fun j => σ (5 + 6 * k + 5) - j) (0) (Nat.zero_le _) rfl rfl ?_
        rintro j hI84 ih84
        have hqj : (wRep (wBk2 σ (wRing σ (ot, 0) k) k) j).2 ≤ 40 := by
          rw [wRep_2]
          show (wRing σ (ot, 0) k).2 + 1 + 1 + j ≤ 40
          omega
        refine z_iload_n C dX5_writeRing_84 2 rfl ?_
        refine z_aload_n C dX5_writeRing_85 0 rfl ?_
        refine z_get C hin5 13 rfl rfl 0 (by decide) k10 rfl dX5_writeRing_86 ?_
        refine zs_get_lost C hin4 k142 dX5_writeRing_89 ?_
        refine z_iload_n C dX5_writeRing_92 1 rfl ?_
        refine zs_ald_lost C (x := σ (5 + 6 * k + 5)) (by omega) (hr.1.b9 (by omega)) dX5_writeRing_93 ?_
        refine zn_icmp_ge C 112 dX5_writeRing_94 (by decide) (by omega) (by omega) (fun h16 => ?_) (fun h17 => ?_)
        · obtain rfl : j = σ (5 + 6 * k + 5) := by omega
          refine z_eq (ws' := SW κ Sa g ++ (RC ra (Sa 0) f9 h9 a9 b9 p9 (Oa 0) ++ OW κ Oa (wRing σ (ot, 0) (k + 1)).2 (wRing σ (ot, 0) (k + 1)).1)) ?_ rfl rfl rfl rfl
          refine zn_iinc (n := 1) C [(1, .int (nI (k + 1))), (0, .ref (ra)), (3, .int (nI (σ (5 + 6 * k + 5))))] dX5_writeRing_112 1 rfl (by decide) rfl ?_
          refine z_goto (tgt := 10) C dX5_writeRing_115 (by decide) ?_
          refine z_lv [1, 0] rfl ?_
          exact ih10 (k + 1) (by omega) (by omega)
        · refine z_aload_n C dX5_writeRing_97 0 rfl ?_
          refine z_get C hin5 13 rfl rfl 6 (by decide) k46 rfl dX5_writeRing_98 ?_
          refine z_bipush (v := nI 119) C dX5_writeRing_101 (by decide) ?_
          refine z_callV C (mX1_put l D κ Oa (wRep (wBk2 σ (wRing σ (ot, 0) k) k) j).2 (wRep (wBk2 σ (wRing σ (ot, 0) k) k) j).1 (119) (by omega) (by omega)) gX5_writeRing_X1_put rfl rfl rfl hdX1_put ⟨Nat.le_of_ble_eq_true rfl, Nat.le_of_ble_eq_true rfl⟩ 0 rfl rfl (SW κ Sa g ++ RC ra (Sa 0) f9 h9 a9 b9 p9 (Oa 0)) (fun _ => SW κ Sa g ++ (RC ra (Sa 0) f9 h9 a9 b9 p9 (Oa 0) ++ OW κ Oa (wPut (wRep (wBk2 σ (wRing σ (ot, 0) k) k) j) (119)).2 (wPut (wRep (wBk2 σ (wRing σ (ot, 0) k) k) j) (119)).1)) pm_w (fun _ => pm_w.symm) rfl (Nat.le_of_ble_eq_true rfl) dX5_writeRing_103 ⟨Nat.zero_le _, Nat.zero_le _⟩ (fun _ _ => ?_)
          have hqb3 := wPut_le (x := 119) hqj
          refine zn_iinc (n := 1) C [(3, .int (nI (j + 1))), (0, .ref (ra)), (1, .int (nI k))] dX5_writeRing_106 2 rfl (by decide) rfl ?_
          refine z_goto (tgt := 84) C dX5_writeRing_109 (by decide) ?_
          refine z_lv [1, 2, 0] rfl ?_
          exact ih84 (j + 1) (by omega) (by omega)
theorem hdX5_writeRing : yX5_writeRing.cls = RX5 ∧ yX5_writeRing.cls ≠ "java/lang/invoke/MethodHandle" ∧ yX5_writeRing.cls ≠ "java/lang/invoke/VarHandle" ∧ (parseMethodDescriptor yX5_writeRing.desc).map (fun d => d.parameters.length) = some 0 := by decide +kernel
set_option maxRecDepth 100000 in
set_option maxHeartbeats 4000000 in
theorem mX5_writeTrain_ok (l : Launch) (D : va_G) (κ : Nat → ClassId) (Sa Oa : Nat → Nat) (g : Nat → Nat → Nat) (ra f9 h9 a9 b9 p9 n : Nat) (ot : Nat → Nat) (σ : Nat → Nat) (M : Nat) (b : Nat) (hr : Rep g σ) (hv : Inv M σ) (hb : b < σ 2) : zM l yX5_writeTrain wsX5_writeTrain { frames := 2, cells := 0, slots := 0, locals := 42 } D (zTy κ) [.ref ra, .int (nI b)] (SW κ Sa g ++ (RC ra (Sa 0) f9 h9 a9 b9 p9 (Oa 0) ++ OW κ Oa n ot)) (S := Unit) (fun _ => some (.int (nI (wTrn σ (ot, 0) b).2))) (fun _ => True) (fun _ => SW κ Sa g ++ (RC ra (Sa 0) f9 h9 a9 b9 p9 (Oa 0) ++ OW κ Oa (wTrn σ (ot, 0) b).2 (wTrn σ (ot, 0) b).1)) 0 0 := by
  refine zM_of (cc := cX5_writeTrain) (maxL := 3) (rt := (some .int)) [(0, .ref (ra)), (1, .int (nI b))] (by decide +kernel) rfl (Nat.le_of_ble_eq_true rfl) rfl ?_
  intro p e s m args below meth c A C hr9 hk hnm
  have C : zC p s m args c cX5_writeTrain 3 wsX5_writeTrain RX5 D (zTy κ) A := C
  have hin5 : ∀ w ∈ wsX50, w ∈ wsX5_writeTrain := fun w h => List.mem_cons_of_mem _ (List.mem_append_left _ (List.mem_append_left _ (List.mem_append_left _ (List.mem_append_right _ h))))
  have hin4 : ∀ w ∈ wsX40, w ∈ wsX5_writeTrain := fun w h => List.mem_cons_of_mem _ (List.mem_append_left _ (List.mem_append_left _ (List.mem_append_right _ h)))
  have hin1 : ∀ w ∈ wsX10, w ∈ wsX5_writeTrain := fun w h => List.mem_cons_of_mem _ (List.mem_append_left _ (List.mem_append_right _ h))
  have k10 : Cond.fieldLink RX5 10 "PeatRailway" "current" "LPeatRailway$State;" ∈ wsX5_writeTrain := by decide +kernel
  have k166 : Cond.fieldLink RX5 166 "PeatRailway$State" "place" "[I" ∈ wsX5_writeTrain := by decide +kernel
  have k46 : Cond.fieldLink RX5 46 "PeatRailway" "output" "LPeatRailway$Output;" ∈ wsX5_writeTrain := by decide +kernel
  have k252 : Cond.fieldLink RX5 252 "PeatRailway$Output" "filled" "I" ∈ wsX5_writeTrain := by decide +kernel
  have k169 : Cond.fieldLink RX5 169 "PeatRailway$State" "position" "[I" ∈ wsX5_writeTrain := by decide +kernel
  have k122 : Cond.fieldLink RX5 122 "PeatRailway$State" "length" "[I" ∈ wsX5_writeTrain := by decide +kernel
  have k172 : Cond.fieldLink RX5 172 "PeatRailway$State" "wagons" "[I" ∈ wsX5_writeTrain := by decide +kernel
  refine z_eq (ws' := SW κ Sa g ++ (RC ra (Sa 0) f9 h9 a9 b9 p9 (Oa 0) ++ OW κ Oa n ot)) ?_ rfl rfl rfl rfl
  have hn1 := hv.n1
  have hn2 := hv.n2
  have ht9 := hv.trn hb
  have hb9 := hv.blk ht9.2.2.2.2.1
  refine z_aload_n C dX5_writeTrain_0 0 rfl ?_
  refine z_iload_n C dX5_writeTrain_1 1 rfl ?_
  refine z_callV C (mX5_requireTrain_ok l D κ Sa _ ra f9 h9 a9 b9 p9 (Oa 0) σ M b hr hv (by omega)) gX5_writeTrain_X5_requireTrain rfl rfl rfl hdX5_requireTrain ⟨Nat.le_of_ble_eq_true rfl, Nat.le_of_ble_eq_true rfl⟩ 13 rfl rfl (OW κ Oa n ot) (fun _ => SW κ Sa g ++ (RC ra (Sa 0) f9 h9 a9 b9 p9 (Oa 0) ++ OW κ Oa n ot)) (List.Perm.of_eq rfl) (fun _ => List.Perm.of_eq rfl) rfl (Nat.le_of_ble_eq_true rfl) dX5_writeTrain_2 ⟨Nat.zero_le _, Nat.zero_le _⟩ (fun _ _ => ?_)
  refine z_aload_n C dX5_writeTrain_5 0 rfl ?_
  refine z_get C hin5 13 rfl rfl 0 (by decide) k10 rfl dX5_writeTrain_6 ?_
  refine zs_get_place C hin4 k166 dX5_writeTrain_9 ?_
  refine z_iload_n C dX5_writeTrain_12 1 rfl ?_
  refine zs_ald_place C (x := σ (65 + 5 * b + 2)) (by omega) (hr.1.t11 (by omega)) dX5_writeTrain_13 ?_
  refine z_istore_n C [(2, .int (nI (σ (65 + 5 * b + 2)))), (0, .ref (ra)), (1, .int (nI b))] dX5_writeTrain_14 (by decide) rfl ?_
  refine z_aload_n C dX5_writeTrain_15 1 rfl ?_
  refine z_get C hin5 13 rfl rfl 6 (by decide) k46 rfl dX5_writeTrain_16 ?_
  refine z_iconst (v := nI 0) C dX5_writeTrain_19 (by decide) ?_
  refine z_put C hin1 tyX1 tyX1_ok nmX1 14 rfl rfl 1 (by decide) k252 rfl rfl rfl (Nat.le_of_ble_eq_true rfl) dX5_writeTrain_20 (SW κ Sa g ++ (RC ra (Sa 0) f9 h9 a9 b9 p9 (Oa 0) ++ OW κ Oa ((ot, 0)).2 ((ot, 0)).1)) rfl ?_
  have hq0 : ((ot, 0) : (Nat → Nat) × Nat).2 ≤ 0 := Nat.le_refl _
  refine z_aload_n C dX5_writeTrain_23 1 rfl ?_
  refine z_get C hin5 13 rfl rfl 6 (by decide) k46 rfl dX5_writeTrain_24 ?_
  refine z_iload_n C dX5_writeTrain_27 0 rfl ?_
  refine z_callV C (mX1_putNumber l D κ Oa ((ot, 0)).2 ((ot, 0)).1 (σ (65 + 5 * b + 2)) (by omega) (by omega)) gX5_writeTrain_X1_putNumber rfl rfl rfl hdX1_putNumber ⟨Nat.le_of_ble_eq_true rfl, Nat.le_of_ble_eq_true rfl⟩ 0 rfl rfl (SW κ Sa g ++ RC ra (Sa 0) f9 h9 a9 b9 p9 (Oa 0)) (fun _ => SW κ Sa g ++ (RC ra (Sa 0) f9 h9 a9 b9 p9 (Oa 0) ++ OW κ Oa (wNum ((ot, 0)) (σ (65 + 5 * b + 2))).2 (wNum ((ot, 0)) (σ (65 + 5 * b + 2))).1)) pm_w (fun _ => pm_w.symm) rfl (Nat.le_of_ble_eq_true rfl) dX5_writeTrain_28 ⟨Nat.zero_le _, Nat.zero_le _⟩ (fun _ _ => ?_)
  have hqb1 := wNum_le (x := σ (65 + 5 * b + 2)) hq0
  refine z_aload_n C dX5_writeTrain_31 1 rfl ?_
  refine z_get C hin5 13 rfl rfl 6 (by decide) k46 rfl dX5_writeTrain_32 ?_
  refine z_bipush (v := nI 58) C dX5_writeTrain_35 (by decide) ?_
  refine z_callV C (mX1_put l D κ Oa (wNum ((ot, 0)) (σ (65 + 5 * b + 2))).2 (wNum ((ot, 0)) (σ (65 + 5 * b + 2))).1 (58) (by omega) (by omega)) gX5_writeTrain_X1_put rfl rfl rfl hdX1_put ⟨Nat.le_of_ble_eq_true rfl, Nat.le_of_ble_eq_true rfl⟩ 0 rfl rfl (SW κ Sa g ++ RC ra (Sa 0) f9 h9 a9 b9 p9 (Oa 0)) (fun _ => SW κ Sa g ++ (RC ra (Sa 0) f9 h9 a9 b9 p9 (Oa 0) ++ OW κ Oa (wPut (wNum ((ot, 0)) (σ (65 + 5 * b + 2))) (58)).2 (wPut (wNum ((ot, 0)) (σ (65 + 5 * b + 2))) (58)).1)) pm_w (fun _ => pm_w.symm) rfl (Nat.le_of_ble_eq_true rfl) dX5_writeTrain_37 ⟨Nat.zero_le _, Nat.zero_le _⟩ (fun _ _ => ?_)
  have hqb2 := wPut_le (x := 58) hqb1
  refine z_aload_n C dX5_writeTrain_40 1 rfl ?_
  refine z_get C hin5 13 rfl rfl 6 (by decide) k46 rfl dX5_writeTrain_41 ?_
  refine z_aload_n C dX5_writeTrain_44 1 rfl ?_
  refine z_get C hin5 13 rfl rfl 0 (by decide) k10 rfl dX5_writeTrain_45 ?_
  refine zs_get_position C hin4 k169 dX5_writeTrain_48 ?_
  refine z_iload_n C dX5_writeTrain_51 2 rfl ?_
  refine zs_ald_position C (x := σ (65 + 5 * b + 3)) (by omega) (hr.1.t12 (by omega)) dX5_writeTrain_52 ?_
  refine z_callV C (mX1_putNumber l D κ Oa (wPut (wNum ((ot, 0)) (σ (65 + 5 * b + 2))) (58)).2 (wPut (wNum ((ot, 0)) (σ (65 + 5 * b + 2))) (58)).1 (σ (65 + 5 * b + 3)) (by omega) (by omega)) gX5_writeTrain_X1_putNumber rfl rfl rfl hdX1_putNumber ⟨Nat.le_of_ble_eq_true rfl, Nat.le_of_ble_eq_true rfl⟩ 0 rfl rfl (SW κ Sa g ++ RC ra (Sa 0) f9 h9 a9 b9 p9 (Oa 0)) (fun _ => SW κ Sa g ++ (RC ra (Sa 0) f9 h9 a9 b9 p9 (Oa 0) ++ OW κ Oa (wNum (wPut (wNum ((ot, 0)) (σ (65 + 5 * b + 2))) (58)) (σ (65 + 5 * b + 3))).2 (wNum (wPut (wNum ((ot, 0)) (σ (65 + 5 * b + 2))) (58)) (σ (65 + 5 * b + 3))).1)) pm_w (fun _ => pm_w.symm) rfl (Nat.le_of_ble_eq_true rfl) dX5_writeTrain_53 ⟨Nat.zero_le _, Nat.zero_le _⟩ (fun _ _ => ?_)
  have hqb3 := wNum_le (x := σ (65 + 5 * b + 3)) hqb2
  refine z_aload_n C dX5_writeTrain_56 1 rfl ?_
  refine z_get C hin5 13 rfl rfl 6 (by decide) k46 rfl dX5_writeTrain_57 ?_
  refine z_bipush (v := nI 47) C dX5_writeTrain_60 (by decide) ?_
  refine z_callV C (mX1_put l D κ Oa (wNum (wPut (wNum ((ot, 0)) (σ (65 + 5 * b + 2))) (58)) (σ (65 + 5 * b + 3))).2 (wNum (wPut (wNum ((ot, 0)) (σ (65 + 5 * b + 2))) (58)) (σ (65 + 5 * b + 3))).1 (47) (by omega) (by omega)) gX5_writeTrain_X1_put rfl rfl rfl hdX1_put ⟨Nat.le_of_ble_eq_true rfl, Nat.le_of_ble_eq_true rfl⟩ 0 rfl rfl (SW κ Sa g ++ RC ra (Sa 0) f9 h9 a9 b9 p9 (Oa 0)) (fun _ => SW κ Sa g ++ (RC ra (Sa 0) f9 h9 a9 b9 p9 (Oa 0) ++ OW κ Oa (wPut (wNum (wPut (wNum ((ot, 0)) (σ (65 + 5 * b + 2))) (58)) (σ (65 + 5 * b + 3))) (47)).2 (wPut (wNum (wPut (wNum ((ot, 0)) (σ (65 + 5 * b + 2))) (58)) (σ (65 + 5 * b + 3))) (47)).1)) pm_w (fun _ => pm_w.symm) rfl (Nat.le_of_ble_eq_true rfl) dX5_writeTrain_62 ⟨Nat.zero_le _, Nat.zero_le _⟩ (fun _ _ => ?_)
  have hqb4 := wPut_le (x := 47) hqb3
  refine z_aload_n C dX5_writeTrain_65 1 rfl ?_
  refine z_get C hin5 13 rfl rfl 6 (by decide) k46 rfl dX5_writeTrain_66 ?_
  refine z_aload_n C dX5_writeTrain_69 1 rfl ?_
  refine z_get C hin5 13 rfl rfl 0 (by decide) k10 rfl dX5_writeTrain_70 ?_
  refine zs_get_length C hin4 k122 dX5_writeTrain_73 ?_
  refine z_iload_n C dX5_writeTrain_76 0 rfl ?_
  refine zs_ald_length C (x := σ (5 + 6 * (σ (65 + 5 * b + 2)) + 0)) (by omega) (hr.1.b5 (by omega)) dX5_writeTrain_77 ?_
  refine z_callV C (mX1_putNumber l D κ Oa (wPut (wNum (wPut (wNum ((ot, 0)) (σ (65 + 5 * b + 2))) (58)) (σ (65 + 5 * b + 3))) (47)).2 (wPut (wNum (wPut (wNum ((ot, 0)) (σ (65 + 5 * b + 2))) (58)) (σ (65 + 5 * b + 3))) (47)).1 (σ (5 + 6 * (σ (65 + 5 * b + 2)) + 0)) (by omega) (by omega)) gX5_writeTrain_X1_putNumber rfl rfl rfl hdX1_putNumber ⟨Nat.le_of_ble_eq_true rfl, Nat.le_of_ble_eq_true rfl⟩ 0 rfl rfl (SW κ Sa g ++ RC ra (Sa 0) f9 h9 a9 b9 p9 (Oa 0)) (fun _ => SW κ Sa g ++ (RC ra (Sa 0) f9 h9 a9 b9 p9 (Oa 0) ++ OW κ Oa (wNum (wPut (wNum (wPut (wNum ((ot, 0)) (σ (65 + 5 * b + 2))) (58)) (σ (65 + 5 * b + 3))) (47)) (σ (5 + 6 * (σ (65 + 5 * b + 2)) + 0))).2 (wNum (wPut (wNum (wPut (wNum ((ot, 0)) (σ (65 + 5 * b + 2))) (58)) (σ (65 + 5 * b + 3))) (47)) (σ (5 + 6 * (σ (65 + 5 * b + 2)) + 0))).1)) pm_w (fun _ => pm_w.symm) rfl (Nat.le_of_ble_eq_true rfl) dX5_writeTrain_78 ⟨Nat.zero_le _, Nat.zero_le _⟩ (fun _ _ => ?_)
  have hqb5 := wNum_le (x := σ (5 + 6 * (σ (65 + 5 * b + 2)) + 0)) hqb4
  refine z_aload_n C dX5_writeTrain_81 1 rfl ?_
  refine z_get C hin5 13 rfl rfl 6 (by decide) k46 rfl dX5_writeTrain_82 ?_
  refine z_bipush (v := nI 32) C dX5_writeTrain_85 (by decide) ?_
  refine z_callV C (mX1_put l D κ Oa (wNum (wPut (wNum (wPut (wNum ((ot, 0)) (σ (65 + 5 * b + 2))) (58)) (σ (65 + 5 * b + 3))) (47)) (σ (5 + 6 * (σ (65 + 5 * b + 2)) + 0))).2 (wNum (wPut (wNum (wPut (wNum ((ot, 0)) (σ (65 + 5 * b + 2))) (58)) (σ (65 + 5 * b + 3))) (47)) (σ (5 + 6 * (σ (65 + 5 * b + 2)) + 0))).1 (32) (by omega) (by omega)) gX5_writeTrain_X1_put rfl rfl rfl hdX1_put ⟨Nat.le_of_ble_eq_true rfl, Nat.le_of_ble_eq_true rfl⟩ 0 rfl rfl (SW κ Sa g ++ RC ra (Sa 0) f9 h9 a9 b9 p9 (Oa 0)) (fun _ => SW κ Sa g ++ (RC ra (Sa 0) f9 h9 a9 b9 p9 (Oa 0) ++ OW κ Oa (wPut (wNum (wPut (wNum (wPut (wNum ((ot, 0)) (σ (65 + 5 * b + 2))) (58)) (σ (65 + 5 * b + 3))) (47)) (σ (5 + 6 * (σ (65 + 5 * b + 2)) + 0))) (32)).2 (wPut (wNum (wPut (wNum (wPut (wNum ((ot, 0)) (σ (65 + 5 * b + 2))) (58)) (σ (65 + 5 * b + 3))) (47)) (σ (5 + 6 * (σ (65 + 5 * b + 2)) + 0))) (32)).1)) pm_w (fun _ => pm_w.symm) rfl (Nat.le_of_ble_eq_true rfl) dX5_writeTrain_87 ⟨Nat.zero_le _, Nat.zero_le _⟩ (fun _ _ => ?_)
  have hqb6 := wPut_le (x := 32) hqb5
  refine z_aload_n C dX5_writeTrain_90 1 rfl ?_
  refine z_get C hin5 13 rfl rfl 6 (by decide) k46 rfl dX5_writeTrain_91 ?_
  refine z_aload_n C dX5_writeTrain_94 1 rfl ?_
  refine z_get C hin5 13 rfl rfl 0 (by decide) k10 rfl dX5_writeTrain_95 ?_
  refine zs_get_wagons C hin4 k172 dX5_writeTrain_98 ?_
  refine z_iload_n C dX5_writeTrain_101 2 rfl ?_
  refine zs_ald_wagons C (x := σ (65 + 5 * b + 0)) (by omega) (hr.1.t13 (by omega)) dX5_writeTrain_102 ?_
  refine z_callV C (mX1_putNumber l D κ Oa (wPut (wNum (wPut (wNum (wPut (wNum ((ot, 0)) (σ (65 + 5 * b + 2))) (58)) (σ (65 + 5 * b + 3))) (47)) (σ (5 + 6 * (σ (65 + 5 * b + 2)) + 0))) (32)).2 (wPut (wNum (wPut (wNum (wPut (wNum ((ot, 0)) (σ (65 + 5 * b + 2))) (58)) (σ (65 + 5 * b + 3))) (47)) (σ (5 + 6 * (σ (65 + 5 * b + 2)) + 0))) (32)).1 (σ (65 + 5 * b + 0)) (by omega) (by omega)) gX5_writeTrain_X1_putNumber rfl rfl rfl hdX1_putNumber ⟨Nat.le_of_ble_eq_true rfl, Nat.le_of_ble_eq_true rfl⟩ 0 rfl rfl (SW κ Sa g ++ RC ra (Sa 0) f9 h9 a9 b9 p9 (Oa 0)) (fun _ => SW κ Sa g ++ (RC ra (Sa 0) f9 h9 a9 b9 p9 (Oa 0) ++ OW κ Oa (wNum (wPut (wNum (wPut (wNum (wPut (wNum ((ot, 0)) (σ (65 + 5 * b + 2))) (58)) (σ (65 + 5 * b + 3))) (47)) (σ (5 + 6 * (σ (65 + 5 * b + 2)) + 0))) (32)) (σ (65 + 5 * b + 0))).2 (wNum (wPut (wNum (wPut (wNum (wPut (wNum ((ot, 0)) (σ (65 + 5 * b + 2))) (58)) (σ (65 + 5 * b + 3))) (47)) (σ (5 + 6 * (σ (65 + 5 * b + 2)) + 0))) (32)) (σ (65 + 5 * b + 0))).1)) pm_w (fun _ => pm_w.symm) rfl (Nat.le_of_ble_eq_true rfl) dX5_writeTrain_103 ⟨Nat.zero_le _, Nat.zero_le _⟩ (fun _ _ => ?_)
  have hqb7 := wNum_le (x := σ (65 + 5 * b + 0)) hqb6
  refine z_aload_n C dX5_writeTrain_106 1 rfl ?_
  refine z_get C hin5 13 rfl rfl 6 (by decide) k46 rfl dX5_writeTrain_107 ?_
  refine z_bipush (v := nI 119) C dX5_writeTrain_110 (by decide) ?_
  refine z_callV C (mX1_put l D κ Oa (wNum (wPut (wNum (wPut (wNum (wPut (wNum ((ot, 0)) (σ (65 + 5 * b + 2))) (58)) (σ (65 + 5 * b + 3))) (47)) (σ (5 + 6 * (σ (65 + 5 * b + 2)) + 0))) (32)) (σ (65 + 5 * b + 0))).2 (wNum (wPut (wNum (wPut (wNum (wPut (wNum ((ot, 0)) (σ (65 + 5 * b + 2))) (58)) (σ (65 + 5 * b + 3))) (47)) (σ (5 + 6 * (σ (65 + 5 * b + 2)) + 0))) (32)) (σ (65 + 5 * b + 0))).1 (119) (by omega) (by omega)) gX5_writeTrain_X1_put rfl rfl rfl hdX1_put ⟨Nat.le_of_ble_eq_true rfl, Nat.le_of_ble_eq_true rfl⟩ 0 rfl rfl (SW κ Sa g ++ RC ra (Sa 0) f9 h9 a9 b9 p9 (Oa 0)) (fun _ => SW κ Sa g ++ (RC ra (Sa 0) f9 h9 a9 b9 p9 (Oa 0) ++ OW κ Oa (wPut (wNum (wPut (wNum (wPut (wNum (wPut (wNum ((ot, 0)) (σ (65 + 5 * b + 2))) (58)) (σ (65 + 5 * b + 3))) (47)) (σ (5 + 6 * (σ (65 + 5 * b + 2)) + 0))) (32)) (σ (65 + 5 * b + 0))) (119)).2 (wPut (wNum (wPut (wNum (wPut (wNum (wPut (wNum ((ot, 0)) (σ (65 + 5 * b + 2))) (58)) (σ (65 + 5 * b + 3))) (47)) (σ (5 + 6 * (σ (65 + 5 * b + 2)) + 0))) (32)) (σ (65 + 5 * b + 0))) (119)).1)) pm_w (fun _ => pm_w.symm) rfl (Nat.le_of_ble_eq_true rfl) dX5_writeTrain_112 ⟨Nat.zero_le _, Nat.zero_le _⟩ (fun _ _ => ?_)
  have hqb8 := wPut_le (x := 119) hqb7
  refine z_aload_n C dX5_writeTrain_115 1 rfl ?_
  refine z_get C hin5 13 rfl rfl 6 (by decide) k46 rfl dX5_writeTrain_116 ?_
  refine z_get C hin1 14 rfl rfl 1 (by decide) k252 rfl dX5_writeTrain_119 ?_
  exact z_iret C hr9 hk (()) (rfl) (trivial) (List.Perm.of_eq rfl) dX5_writeTrain_122 (Nat.le_refl _) (Nat.le_refl _)
theorem hdX5_writeTrain : yX5_writeTrain.cls = RX5 ∧ yX5_writeTrain.cls ≠ "java/lang/invoke/MethodHandle" ∧ yX5_writeTrain.cls ≠ "java/lang/invoke/VarHandle" ∧ (parseMethodDescriptor yX5_writeTrain.desc).map (fun d => d.parameters.length) = some 1 := by decide +kernel
set_option maxRecDepth 100000 in
set_option maxHeartbeats 4000000 in
theorem mX5_writeTrain_no (l : Launch) (D : va_G) (κ : Nat → ClassId) (adK adV : Nat → Nat) (Sa : Nat → Nat) (g : Nat → Nat → Nat) (ra f9 h9 a9 b9 p9 o9 : Nat) (σ : Nat → Nat) (M : Nat) (x : Int32) (hls : l.stackTraces = false) (hr : Rep g σ) (hv : Inv M σ) (hx : isB (σ 2) x = false) : zX (aX adK adV) l yX5_writeTrain wsX5_writeTrain { frames := 7, cells := 1, slots := 6, locals := 103 } D (zTy κ) [.ref (ra), .int (x)] (SW κ Sa g ++ (RC ra (Sa 0) f9 h9 a9 b9 p9 o9)) eIB (S := Unit) (fun _ => True) (fun _ => SW κ Sa g ++ (RC ra (Sa 0) f9 h9 a9 b9 p9 o9)) 1 6 := by
  refine zX_of (cc := cX5_writeTrain) (maxL := 3) (rt := (some .int)) [(0, .ref (ra)), (1, .int (x))] (by decide +kernel) rfl (Nat.le_of_ble_eq_true rfl) rfl ?_
  intro p e s m args below meth c A C hk htab hX
  have C : zC p s m args c cX5_writeTrain 3 wsX5_writeTrain RX5 D (zTy κ) A := C
  have hin5 : ∀ w ∈ wsX50, w ∈ wsX5_writeTrain := fun w h => List.mem_cons_of_mem _ (List.mem_append_left _ (List.mem_append_left _ (List.mem_append_left _ (List.mem_append_right _ h))))
  have hin4 : ∀ w ∈ wsX40, w ∈ wsX5_writeTrain := fun w h => List.mem_cons_of_mem _ (List.mem_append_left _ (List.mem_append_left _ (List.mem_append_right _ h)))
  have hin1 : ∀ w ∈ wsX10, w ∈ wsX5_writeTrain := fun w h => List.mem_cons_of_mem _ (List.mem_append_left _ (List.mem_append_right _ h))
  have k10 : Cond.fieldLink RX5 10 "PeatRailway" "current" "LPeatRailway$State;" ∈ wsX5_writeTrain := by decide +kernel
  have k166 : Cond.fieldLink RX5 166 "PeatRailway$State" "place" "[I" ∈ wsX5_writeTrain := by decide +kernel
  have k46 : Cond.fieldLink RX5 46 "PeatRailway" "output" "LPeatRailway$Output;" ∈ wsX5_writeTrain := by decide +kernel
  have k252 : Cond.fieldLink RX5 252 "PeatRailway$Output" "filled" "I" ∈ wsX5_writeTrain := by decide +kernel
  have k169 : Cond.fieldLink RX5 169 "PeatRailway$State" "position" "[I" ∈ wsX5_writeTrain := by decide +kernel
  have k122 : Cond.fieldLink RX5 122 "PeatRailway$State" "length" "[I" ∈ wsX5_writeTrain := by decide +kernel
  have k172 : Cond.fieldLink RX5 172 "PeatRailway$State" "wagons" "[I" ∈ wsX5_writeTrain := by decide +kernel
  refine z_eq (ws' := SW κ Sa g ++ (RC ra (Sa 0) f9 h9 a9 b9 p9 o9 ++ [])) ?_ rfl rfl rfl rfl
  have hn1 := hv.n1
  have hn2 := hv.n2
  refine z_aload_n C dX5_writeTrain_0 0 rfl ?_
  refine z_iload_n C dX5_writeTrain_1 1 rfl ?_
  exact zx_callV C htab hk (aX_ok adK adV) hX (mX5_requireTrain_no l D κ adK adV Sa _ ra f9 h9 a9 b9 p9 o9 σ M (x) hls hr hv hx) gX5_writeTrain_X5_requireTrain rfl rfl rfl hdX5_requireTrain ⟨(Nat.le_of_ble_eq_true rfl), (Nat.le_of_ble_eq_true rfl)⟩ 13 rfl rfl [] (List.Perm.refl _) rfl (Nat.le_of_ble_eq_true rfl) dX5_writeTrain_2 ⟨(Nat.le_of_ble_eq_true rfl), (Nat.le_of_ble_eq_true rfl)⟩ (Nat.le_of_ble_eq_true rfl) (Nat.le_of_ble_eq_true rfl) (fun u _ => ⟨(), trivial, List.Perm.of_eq rfl⟩)
set_option maxRecDepth 100000 in
set_option maxHeartbeats 4000000 in
theorem mX5_outputByte_ok (l : Launch) (D : va_G) (κ : Nat → ClassId) (Oa : Nat → Nat) (ra c9 f9 h9 a9 b9 p9 n : Nat) (ot : Nat → Nat) (k : Nat) (hk0 : k < n) (hn64 : n ≤ 64) : zM l yX5_outputByte wsX5_outputByte { frames := 0, cells := 0, slots := 0, locals := 0 } D (zTy κ) [.ref ra, .int (nI k)] (RC ra c9 f9 h9 a9 b9 p9 (Oa 0) ++ (OW κ Oa n ot)) (S := Unit) (fun _ => (some (.int (nI (ot k))))) (fun _ => True) (fun _ => RC ra c9 f9 h9 a9 b9 p9 (Oa 0) ++ (OW κ Oa n ot)) 0 0 := by
  refine zM_of (cc := cX5_outputByte) (maxL := 2) (rt := (some .int)) [(0, .ref (ra)), (1, .int (nI k))] (by decide +kernel) rfl (Nat.le_of_ble_eq_true rfl) rfl ?_
  intro p e s m args below meth c A C hr9 hk hnm
  have C : zC p s m args c cX5_outputByte 2 wsX5_outputByte RX5 D (zTy κ) A := C
  have hin5 : ∀ w ∈ wsX50, w ∈ wsX5_outputByte := fun w h => List.mem_cons_of_mem _ (List.mem_append_left _ (List.mem_append_left _ (List.mem_append_right _ h)))
  have hin1 : ∀ w ∈ wsX10, w ∈ wsX5_outputByte := fun w h => List.mem_cons_of_mem _ (List.mem_append_left _ (List.mem_append_right _ h))
  have k46 : Cond.fieldLink RX5 46 "PeatRailway" "output" "LPeatRailway$Output;" ∈ wsX5_outputByte := by decide +kernel
  have k252 : Cond.fieldLink RX5 252 "PeatRailway$Output" "filled" "I" ∈ wsX5_outputByte := by decide +kernel
  have k262 : Cond.fieldLink RX5 262 "PeatRailway$Output" "bytes" "[B" ∈ wsX5_outputByte := by decide +kernel
  refine z_eq (ws' := RC ra c9 f9 h9 a9 b9 p9 (Oa 0) ++ (OW κ Oa n ot ++ [])) ?_ rfl rfl rfl rfl
  refine z_iload_n C dX5_outputByte_0 1 rfl ?_
  refine zn_if_lt C 15 dX5_outputByte_1 (by decide) (by omega) ?_
  refine z_iload_n C dX5_outputByte_4 1 rfl ?_
  refine z_aload_n C dX5_outputByte_5 0 rfl ?_
  refine z_get C hin5 0 rfl rfl 6 (by decide) k46 rfl dX5_outputByte_6 ?_
  refine z_get C hin1 1 rfl rfl 1 (by decide) k252 rfl dX5_outputByte_9 ?_
  refine zn_icmp_lt C 26 dX5_outputByte_12 (by decide) (by omega) (by omega) (fun h1 => ?_) (fun h2 => ?_)
  · refine z_aload_n C dX5_outputByte_26 0 rfl ?_
    refine z_get C hin5 0 rfl rfl 6 (by decide) k46 rfl dX5_outputByte_27 ?_
    refine z_get C hin1 1 rfl rfl 0 (by decide) k262 rfl dX5_outputByte_30 ?_
    refine z_iload_n C dX5_outputByte_33 1 rfl ?_
    refine z_bald C 2 1 rfl rfl (by omega) (by decide) dX5_outputByte_34 ?_
    exact z_iret C hr9 hk (()) (rfl) (trivial) (List.Perm.of_eq rfl) dX5_outputByte_35 (Nat.le_refl _) (Nat.le_refl _)
  · exfalso; omega
theorem hdX5_outputByte : yX5_outputByte.cls = RX5 ∧ yX5_outputByte.cls ≠ "java/lang/invoke/MethodHandle" ∧ yX5_outputByte.cls ≠ "java/lang/invoke/VarHandle" ∧ (parseMethodDescriptor yX5_outputByte.desc).map (fun d => d.parameters.length) = some 1 := by decide +kernel
set_option maxRecDepth 100000 in
set_option maxHeartbeats 4000000 in
theorem mX5_outputByte_no (l : Launch) (D : va_G) (κ : Nat → ClassId) (adK adV : Nat → Nat) (Oa : Nat → Nat) (ra c9 f9 h9 a9 b9 p9 n : Nat) (ot : Nat → Nat) (x : Int32) (hls : l.stackTraces = false) (hn64 : n ≤ 64) (hx : isB n x = false) : zX (aX adK adV) l yX5_outputByte wsX5_outputByte { frames := 6, cells := 1, slots := 6, locals := 82 } D (zTy κ) [.ref (ra), .int (x)] (RC ra c9 f9 h9 a9 b9 p9 (Oa 0) ++ (OW κ Oa n ot)) eIB (S := Unit) (fun _ => True) (fun _ => RC ra c9 f9 h9 a9 b9 p9 (Oa 0) ++ (OW κ Oa n ot)) 1 6 := by
  refine zX_of (cc := cX5_outputByte) (maxL := 2) (rt := (some .int)) [(0, .ref (ra)), (1, .int (x))] (by decide +kernel) rfl (Nat.le_of_ble_eq_true rfl) rfl ?_
  intro p e s m args below meth c A C hk htab hX
  have C : zC p s m args c cX5_outputByte 2 wsX5_outputByte RX5 D (zTy κ) A := C
  have hin5 : ∀ w ∈ wsX50, w ∈ wsX5_outputByte := fun w h => List.mem_cons_of_mem _ (List.mem_append_left _ (List.mem_append_left _ (List.mem_append_right _ h)))
  have hin1 : ∀ w ∈ wsX10, w ∈ wsX5_outputByte := fun w h => List.mem_cons_of_mem _ (List.mem_append_left _ (List.mem_append_right _ h))
  have k46 : Cond.fieldLink RX5 46 "PeatRailway" "output" "LPeatRailway$Output;" ∈ wsX5_outputByte := by decide +kernel
  have k252 : Cond.fieldLink RX5 252 "PeatRailway$Output" "filled" "I" ∈ wsX5_outputByte := by decide +kernel
  have k262 : Cond.fieldLink RX5 262 "PeatRailway$Output" "bytes" "[B" ∈ wsX5_outputByte := by decide +kernel
  refine z_eq (ws' := RC ra c9 f9 h9 a9 b9 p9 (Oa 0) ++ (OW κ Oa n ot ++ [])) ?_ rfl rfl rfl rfl
  refine z_iload_n C dX5_outputByte_0 1 rfl ?_
  refine z_if_lt C 15 dX5_outputByte_1 (by decide) (fun h1 => ?_) (fun h2 => ?_)
  · exact zx_throwW C htab hk hls hX (E0 := eIB) (names := ["java/lang/RuntimeException", "java/lang/Exception"]) tf_IB tn_n (show Cond.classLink RX5 90 eIB ∈ wsX5_outputByte from by decide +kernel) (show Cond.initialized eIB ∈ wsX5_outputByte from by decide +kernel) (fun w h => List.mem_cons_of_mem _ (List.mem_append_right _ h)) tb_IB tc_IB tg_IB 25 (by decide) rfl rfl dX5_outputByte_15 dX5_outputByte_18 dX5_outputByte_19 dX5_outputByte_22 dX5_outputByte_25 (Nat.le_of_ble_eq_true rfl) (Nat.le_of_ble_eq_true rfl) (Nat.le_of_ble_eq_true rfl) (Nat.le_of_ble_eq_true rfl) (Nat.le_of_ble_eq_true rfl) (Nat.le_of_ble_eq_true rfl) (()) (trivial) (List.Perm.of_eq rfl)
  · refine z_iload_n C dX5_outputByte_4 1 rfl ?_
    refine z_aload_n C dX5_outputByte_5 0 rfl ?_
    refine z_get C hin5 0 rfl rfl 6 (by decide) k46 rfl dX5_outputByte_6 ?_
    refine z_get C hin1 1 rfl rfl 1 (by decide) k252 rfl dX5_outputByte_9 ?_
    refine z_icmp_lt C 26 dX5_outputByte_12 (by decide) (fun q => absurd q (isB_no (by omega) hx h2)) (fun _ => ?_)
    exact zx_throwW C htab hk hls hX (E0 := eIB) (names := ["java/lang/RuntimeException", "java/lang/Exception"]) tf_IB tn_n (show Cond.classLink RX5 90 eIB ∈ wsX5_outputByte from by decide +kernel) (show Cond.initialized eIB ∈ wsX5_outputByte from by decide +kernel) (fun w h => List.mem_cons_of_mem _ (List.mem_append_right _ h)) tb_IB tc_IB tg_IB 25 (by decide) rfl rfl dX5_outputByte_15 dX5_outputByte_18 dX5_outputByte_19 dX5_outputByte_22 dX5_outputByte_25 (Nat.le_of_ble_eq_true rfl) (Nat.le_of_ble_eq_true rfl) (Nat.le_of_ble_eq_true rfl) (Nat.le_of_ble_eq_true rfl) (Nat.le_of_ble_eq_true rfl) (Nat.le_of_ble_eq_true rfl) (()) (trivial) (List.Perm.of_eq rfl)
set_option maxRecDepth 100000 in
set_option maxHeartbeats 4000000 in
theorem mX5_append_ok (l : Launch) (D : va_G) (κ : Nat → ClassId) (Pa Pr : Nat → Nat) (ra c9 f9 h9 a9 b9 o9 : Nat) (eo : Int32) (v : Nat → Nat) (tx : Nat → Int32) (x1 x2 x3 x4 x5 : Int32) (h1 : v 1 ≤ 580) : zM l yX5_append wsX5_append { frames := 2, cells := 0, slots := 0, locals := 42 } D (zTy κ) [.ref ra, .int (x1), .int (x2), .int (x3), .int (x4), .int (x5)] (RC ra c9 f9 h9 a9 b9 (Pa 0) o9 ++ (PW κ Pa Pr eo v tx)) (S := Unit) (fun _ => (some (.int (nI (v 1 + 4 + 4 + 4 + 4 + 4))))) (fun _ => True) (fun _ => RC ra c9 f9 h9 a9 b9 (Pa 0) o9 ++ (PW κ Pa Pr eo (upN v 1 (v 1 + 4 + 4 + 4 + 4 + 4)) (fdF (fdF (fdF (fdF (fdF tx (v 1) x1) (v 1 + 4) x2) (v 1 + 4 + 4) x3) (v 1 + 4 + 4 + 4) x4) (v 1 + 4 + 4 + 4 + 4) x5))) 0 0 := by
  refine zM_of (cc := cX5_append) (maxL := 6) (rt := (some .int)) [(0, .ref (ra)), (1, .int (x1)), (2, .int (x2)), (3, .int (x3)), (4, .int (x4)), (5, .int (x5))] (by decide +kernel) rfl (Nat.le_of_ble_eq_true rfl) rfl ?_
  intro p e s m args below meth c A C hr9 hk hnm
  have C : zC p s m args c cX5_append 6 wsX5_append RX5 D (zTy κ) A := C
  have hin5 : ∀ w ∈ wsX50, w ∈ wsX5_append := fun w h => List.mem_cons_of_mem _ (List.mem_append_left _ (List.mem_append_left _ (List.mem_append_right _ h)))
  have hin2 : ∀ w ∈ wsX20, w ∈ wsX5_append := fun w h => List.mem_cons_of_mem _ (List.mem_append_left _ (List.mem_append_right _ h))
  have k39 : Cond.fieldLink RX5 39 "PeatRailway" "parser" "LPeatRailway$Parser;" ∈ wsX5_append := by decide +kernel
  have k86 : Cond.fieldLink RX5 86 "PeatRailway$Parser" "filled" "I" ∈ wsX5_append := by decide +kernel
  refine z_eq (ws' := RC ra c9 f9 h9 a9 b9 (Pa 0) o9 ++ (PW κ Pa Pr eo v tx ++ [])) ?_ rfl rfl rfl rfl
  refine z_aload_n C dX5_append_0 0 rfl ?_
  refine z_get C hin5 0 rfl rfl 5 (by decide) k39 rfl dX5_append_1 ?_
  refine z_bipush (v := nI 20) C dX5_append_4 (by decide) ?_
  refine z_callV C (mX2_hasRoom l D κ Pa Pr eo v tx 20 (by omega) (by omega)) gX5_append_X2_hasRoom rfl rfl rfl hdX2_hasRoom ⟨Nat.le_of_ble_eq_true rfl, Nat.le_of_ble_eq_true rfl⟩ 0 rfl rfl (RC ra c9 f9 h9 a9 b9 (Pa 0) o9) (fun _ => RC ra c9 f9 h9 a9 b9 (Pa 0) o9 ++ (PW κ Pa Pr eo v tx)) List.perm_append_comm (fun _ => List.perm_append_comm) rfl (Nat.le_of_ble_eq_true rfl) dX5_append_6 ⟨Nat.zero_le _, Nat.zero_le _⟩ (fun _ _ => ?_)
  refine zb_if_ne C 22 dX5_append_9 (by decide) (fun h1 => ?_) (fun h2 => ?_)
  · refine z_aload_n C dX5_append_22 0 rfl ?_
    refine z_get C hin5 0 rfl rfl 5 (by decide) k39 rfl dX5_append_23 ?_
    refine z_iload_n C dX5_append_26 1 rfl ?_
    refine z_callV C (mX2_putInt l D κ Pa Pr eo v tx (x1) (show v 1 ≤ 596 from by omega)) gX5_append_X2_putInt rfl rfl rfl hdX2_putInt ⟨Nat.le_of_ble_eq_true rfl, Nat.le_of_ble_eq_true rfl⟩ 0 rfl rfl (RC ra c9 f9 h9 a9 b9 (Pa 0) o9) (fun _ => RC ra c9 f9 h9 a9 b9 (Pa 0) o9 ++ (PW κ Pa Pr eo (upN v 1 (v 1 + 4)) (fdF tx (v 1) (x1)))) List.perm_append_comm (fun _ => List.perm_append_comm) rfl (Nat.le_of_ble_eq_true rfl) dX5_append_27 ⟨Nat.zero_le _, Nat.zero_le _⟩ (fun _ _ => ?_)
    refine z_aload_n C dX5_append_30 0 rfl ?_
    refine z_get C hin5 0 rfl rfl 5 (by decide) k39 rfl dX5_append_31 ?_
    refine z_iload_n C dX5_append_34 2 rfl ?_
    refine z_callV C (mX2_putInt l D κ Pa Pr eo (upN v 1 (v 1 + 4)) (fdF tx (v 1) (x1)) (x2) (show v 1 + 4 ≤ 596 from by omega)) gX5_append_X2_putInt rfl rfl rfl hdX2_putInt ⟨Nat.le_of_ble_eq_true rfl, Nat.le_of_ble_eq_true rfl⟩ 0 rfl rfl (RC ra c9 f9 h9 a9 b9 (Pa 0) o9) (fun _ => RC ra c9 f9 h9 a9 b9 (Pa 0) o9 ++ (PW κ Pa Pr eo (upN (upN v 1 (v 1 + 4)) 1 (v 1 + 4 + 4)) (fdF (fdF tx (v 1) (x1)) (v 1 + 4) (x2)))) List.perm_append_comm (fun _ => List.perm_append_comm) rfl (Nat.le_of_ble_eq_true rfl) dX5_append_35 ⟨Nat.zero_le _, Nat.zero_le _⟩ (fun _ _ => ?_)
    refine z_aload_n C dX5_append_38 0 rfl ?_
    refine z_get C hin5 0 rfl rfl 5 (by decide) k39 rfl dX5_append_39 ?_
    refine z_iload_n C dX5_append_42 3 rfl ?_
    refine z_callV C (mX2_putInt l D κ Pa Pr eo (upN (upN v 1 (v 1 + 4)) 1 (v 1 + 4 + 4)) (fdF (fdF tx (v 1) (x1)) (v 1 + 4) (x2)) (x3) (show v 1 + 4 + 4 ≤ 596 from by omega)) gX5_append_X2_putInt rfl rfl rfl hdX2_putInt ⟨Nat.le_of_ble_eq_true rfl, Nat.le_of_ble_eq_true rfl⟩ 0 rfl rfl (RC ra c9 f9 h9 a9 b9 (Pa 0) o9) (fun _ => RC ra c9 f9 h9 a9 b9 (Pa 0) o9 ++ (PW κ Pa Pr eo (upN (upN (upN v 1 (v 1 + 4)) 1 (v 1 + 4 + 4)) 1 (v 1 + 4 + 4 + 4)) (fdF (fdF (fdF tx (v 1) (x1)) (v 1 + 4) (x2)) (v 1 + 4 + 4) (x3)))) List.perm_append_comm (fun _ => List.perm_append_comm) rfl (Nat.le_of_ble_eq_true rfl) dX5_append_43 ⟨Nat.zero_le _, Nat.zero_le _⟩ (fun _ _ => ?_)
    refine z_aload_n C dX5_append_46 0 rfl ?_
    refine z_get C hin5 0 rfl rfl 5 (by decide) k39 rfl dX5_append_47 ?_
    refine z_iload C dX5_append_50 4 rfl ?_
    refine z_callV C (mX2_putInt l D κ Pa Pr eo (upN (upN (upN v 1 (v 1 + 4)) 1 (v 1 + 4 + 4)) 1 (v 1 + 4 + 4 + 4)) (fdF (fdF (fdF tx (v 1) (x1)) (v 1 + 4) (x2)) (v 1 + 4 + 4) (x3)) (x4) (show v 1 + 4 + 4 + 4 ≤ 596 from by omega)) gX5_append_X2_putInt rfl rfl rfl hdX2_putInt ⟨Nat.le_of_ble_eq_true rfl, Nat.le_of_ble_eq_true rfl⟩ 0 rfl rfl (RC ra c9 f9 h9 a9 b9 (Pa 0) o9) (fun _ => RC ra c9 f9 h9 a9 b9 (Pa 0) o9 ++ (PW κ Pa Pr eo (upN (upN (upN (upN v 1 (v 1 + 4)) 1 (v 1 + 4 + 4)) 1 (v 1 + 4 + 4 + 4)) 1 (v 1 + 4 + 4 + 4 + 4)) (fdF (fdF (fdF (fdF tx (v 1) (x1)) (v 1 + 4) (x2)) (v 1 + 4 + 4) (x3)) (v 1 + 4 + 4 + 4) (x4)))) List.perm_append_comm (fun _ => List.perm_append_comm) rfl (Nat.le_of_ble_eq_true rfl) dX5_append_52 ⟨Nat.zero_le _, Nat.zero_le _⟩ (fun _ _ => ?_)
    refine z_aload_n C dX5_append_55 0 rfl ?_
    refine z_get C hin5 0 rfl rfl 5 (by decide) k39 rfl dX5_append_56 ?_
    refine z_iload C dX5_append_59 5 rfl ?_
    refine z_callV C (mX2_putInt l D κ Pa Pr eo (upN (upN (upN (upN v 1 (v 1 + 4)) 1 (v 1 + 4 + 4)) 1 (v 1 + 4 + 4 + 4)) 1 (v 1 + 4 + 4 + 4 + 4)) (fdF (fdF (fdF (fdF tx (v 1) (x1)) (v 1 + 4) (x2)) (v 1 + 4 + 4) (x3)) (v 1 + 4 + 4 + 4) (x4)) (x5) (show v 1 + 4 + 4 + 4 + 4 ≤ 596 from by omega)) gX5_append_X2_putInt rfl rfl rfl hdX2_putInt ⟨Nat.le_of_ble_eq_true rfl, Nat.le_of_ble_eq_true rfl⟩ 0 rfl rfl (RC ra c9 f9 h9 a9 b9 (Pa 0) o9) (fun _ => RC ra c9 f9 h9 a9 b9 (Pa 0) o9 ++ (PW κ Pa Pr eo (upN (upN (upN (upN (upN v 1 (v 1 + 4)) 1 (v 1 + 4 + 4)) 1 (v 1 + 4 + 4 + 4)) 1 (v 1 + 4 + 4 + 4 + 4)) 1 (v 1 + 4 + 4 + 4 + 4 + 4)) (fdF (fdF (fdF (fdF (fdF tx (v 1) (x1)) (v 1 + 4) (x2)) (v 1 + 4 + 4) (x3)) (v 1 + 4 + 4 + 4) (x4)) (v 1 + 4 + 4 + 4 + 4) (x5)))) List.perm_append_comm (fun _ => List.perm_append_comm) rfl (Nat.le_of_ble_eq_true rfl) dX5_append_61 ⟨Nat.zero_le _, Nat.zero_le _⟩ (fun _ _ => ?_)
    refine z_aload_n C dX5_append_64 0 rfl ?_
    refine z_get C hin5 0 rfl rfl 5 (by decide) k39 rfl dX5_append_65 ?_
    refine z_get C hin2 1 rfl rfl 1 (by decide) k86 rfl dX5_append_68 ?_
    exact z_iret C hr9 hk (()) (rfl) (trivial) (List.Perm.of_eq (by rw [upN_2, upN_2, upN_2, upN_2])) dX5_append_71 (Nat.le_refl _) (Nat.le_refl _)
  · exact absurd (of_decide_eq_false h2) (by omega)
theorem hdX5_append : yX5_append.cls = RX5 ∧ yX5_append.cls ≠ "java/lang/invoke/MethodHandle" ∧ yX5_append.cls ≠ "java/lang/invoke/VarHandle" ∧ (parseMethodDescriptor yX5_append.desc).map (fun d => d.parameters.length) = some 5 := by decide +kernel
set_option maxRecDepth 100000 in
set_option maxHeartbeats 4000000 in
theorem mX5_append_no (l : Launch) (D : va_G) (κ : Nat → ClassId) (adK adV : Nat → Nat) (Pa Pr : Nat → Nat) (ra c9 f9 h9 a9 b9 o9 : Nat) (eo : Int32) (v : Nat → Nat) (tx : Nat → Int32) (x1 x2 x3 x4 x5 : Int32) (hls : l.stackTraces = false) (h1 : v 1 ≤ 600) (h2 : 580 < v 1) : zX (aX adK adV) l yX5_append wsX5_append { frames := 6, cells := 1, slots := 6, locals := 103 } D (zTy κ) [.ref (ra), .int (x1), .int (x2), .int (x3), .int (x4), .int (x5)] (RC ra c9 f9 h9 a9 b9 (Pa 0) o9 ++ (PW κ Pa Pr eo v tx)) eIS (S := Unit) (fun _ => True) (fun _ => RC ra c9 f9 h9 a9 b9 (Pa 0) o9 ++ (PW κ Pa Pr eo v tx)) 1 6 := by
  refine zX_of (cc := cX5_append) (maxL := 6) (rt := (some .int)) [(0, .ref (ra)), (1, .int (x1)), (2, .int (x2)), (3, .int (x3)), (4, .int (x4)), (5, .int (x5))] (by decide +kernel) rfl (Nat.le_of_ble_eq_true rfl) rfl ?_
  intro p e s m args below meth c A C hk htab hX
  have C : zC p s m args c cX5_append 6 wsX5_append RX5 D (zTy κ) A := C
  have hin5 : ∀ w ∈ wsX50, w ∈ wsX5_append := fun w h => List.mem_cons_of_mem _ (List.mem_append_left _ (List.mem_append_left _ (List.mem_append_right _ h)))
  have hin2 : ∀ w ∈ wsX20, w ∈ wsX5_append := fun w h => List.mem_cons_of_mem _ (List.mem_append_left _ (List.mem_append_right _ h))
  have k39 : Cond.fieldLink RX5 39 "PeatRailway" "parser" "LPeatRailway$Parser;" ∈ wsX5_append := by decide +kernel
  have k86 : Cond.fieldLink RX5 86 "PeatRailway$Parser" "filled" "I" ∈ wsX5_append := by decide +kernel
  refine z_eq (ws' := RC ra c9 f9 h9 a9 b9 (Pa 0) o9 ++ (PW κ Pa Pr eo v tx ++ [])) ?_ rfl rfl rfl rfl
  refine z_aload_n C dX5_append_0 0 rfl ?_
  refine z_get C hin5 0 rfl rfl 5 (by decide) k39 rfl dX5_append_1 ?_
  refine z_bipush (v := nI 20) C dX5_append_4 (by decide) ?_
  refine z_callV C (mX2_hasRoom l D κ Pa Pr eo v tx 20 (by omega) (by omega)) gX5_append_X2_hasRoom rfl rfl rfl hdX2_hasRoom ⟨Nat.le_of_ble_eq_true rfl, Nat.le_of_ble_eq_true rfl⟩ 0 rfl rfl (RC ra c9 f9 h9 a9 b9 (Pa 0) o9) (fun _ => RC ra c9 f9 h9 a9 b9 (Pa 0) o9 ++ (PW κ Pa Pr eo v tx)) List.perm_append_comm (fun _ => List.perm_append_comm) rfl (Nat.le_of_ble_eq_true rfl) dX5_append_6 ⟨Nat.zero_le _, Nat.zero_le _⟩ (fun _ _ => ?_)
  refine zb_if_ne C 22 dX5_append_9 (by decide) (fun h1 => ?_) (fun h2 => ?_)
  · exact absurd (of_decide_eq_true h1) (by omega)
  · exact zx_throw C htab hk hls hX (E0 := eIS) (names := ["java/lang/RuntimeException", "java/lang/Exception"]) tf_IS tn_n (show Cond.classLink RX5 76 eIS ∈ wsX5_append from by decide +kernel) (show Cond.initialized eIS ∈ wsX5_append from by decide +kernel) (fun w h => List.mem_cons_of_mem _ (List.mem_append_right _ h)) tb_IS tc_IS tg_IS 9 (by decide) rfl rfl dX5_append_12 dX5_append_15 dX5_append_16 dX5_append_18 dX5_append_21 (Nat.le_of_ble_eq_true rfl) (Nat.le_of_ble_eq_true rfl) (Nat.le_of_ble_eq_true rfl) (Nat.le_of_ble_eq_true rfl) (Nat.le_of_ble_eq_true rfl) (Nat.le_of_ble_eq_true rfl) (()) (trivial) (List.Perm.of_eq rfl)
set_option maxRecDepth 100000 in
set_option maxHeartbeats 4000000 in
theorem mX5_errorKind (l : Launch) (D : va_G) (κ : Nat → ClassId) (Pa Pr : Nat → Nat) (ra c9 f9 h9 a9 b9 o9 : Nat) (eo : Int32) (v : Nat → Nat) (tx : Nat → Int32)  : zM l yX5_errorKind wsX5_errorKind { frames := 0, cells := 0, slots := 0, locals := 0 } D (zTy κ) [.ref ra] (RC ra c9 f9 h9 a9 b9 (Pa 0) o9 ++ (PW κ Pa Pr eo v tx)) (S := Unit) (fun _ => (some (.int (nI (v 2))))) (fun _ => True) (fun _ => RC ra c9 f9 h9 a9 b9 (Pa 0) o9 ++ (PW κ Pa Pr eo v tx)) 0 0 := by
  refine zM_of (cc := cX5_errorKind) (maxL := 1) (rt := (some .int)) [(0, .ref (ra))] (by decide +kernel) rfl (Nat.le_of_ble_eq_true rfl) rfl ?_
  intro p e s m args below meth c A C hr9 hk hnm
  have C : zC p s m args c cX5_errorKind 1 wsX5_errorKind RX5 D (zTy κ) A := C
  have hin5 : ∀ w ∈ wsX50, w ∈ wsX5_errorKind := fun w h => List.mem_cons_of_mem _ (List.mem_append_left _ (List.mem_append_right _ h))
  have hin2 : ∀ w ∈ wsX20, w ∈ wsX5_errorKind := fun w h => List.mem_cons_of_mem _ (List.mem_append_right _ h)
  have k39 : Cond.fieldLink RX5 39 "PeatRailway" "parser" "LPeatRailway$Parser;" ∈ wsX5_errorKind := by decide +kernel
  have k110 : Cond.fieldLink RX5 110 "PeatRailway$Parser" "errorKind" "I" ∈ wsX5_errorKind := by decide +kernel
  refine z_eq (ws' := RC ra c9 f9 h9 a9 b9 (Pa 0) o9 ++ (PW κ Pa Pr eo v tx ++ [])) ?_ rfl rfl rfl rfl
  refine z_aload_n C dX5_errorKind_0 0 rfl ?_
  refine z_get C hin5 0 rfl rfl 5 (by decide) k39 rfl dX5_errorKind_1 ?_
  refine z_get C hin2 1 rfl rfl 2 (by decide) k110 rfl dX5_errorKind_4 ?_
  exact z_iret C hr9 hk (()) (rfl) (trivial) (List.Perm.of_eq rfl) dX5_errorKind_7 (Nat.le_refl _) (Nat.le_refl _)
theorem hdX5_errorKind : yX5_errorKind.cls = RX5 ∧ yX5_errorKind.cls ≠ "java/lang/invoke/MethodHandle" ∧ yX5_errorKind.cls ≠ "java/lang/invoke/VarHandle" ∧ (parseMethodDescriptor yX5_errorKind.desc).map (fun d => d.parameters.length) = some 0 := by decide +kernel
set_option maxRecDepth 100000 in
set_option maxHeartbeats 4000000 in
theorem mX5_errorOffset (l : Launch) (D : va_G) (κ : Nat → ClassId) (Pa Pr : Nat → Nat) (ra c9 f9 h9 a9 b9 o9 : Nat) (eo : Int32) (v : Nat → Nat) (tx : Nat → Int32)  : zM l yX5_errorOffset wsX5_errorOffset { frames := 0, cells := 0, slots := 0, locals := 0 } D (zTy κ) [.ref ra] (RC ra c9 f9 h9 a9 b9 (Pa 0) o9 ++ (PW κ Pa Pr eo v tx)) (S := Unit) (fun _ => (some (.int (eo)))) (fun _ => True) (fun _ => RC ra c9 f9 h9 a9 b9 (Pa 0) o9 ++ (PW κ Pa Pr eo v tx)) 0 0 := by
  refine zM_of (cc := cX5_errorOffset) (maxL := 1) (rt := (some .int)) [(0, .ref (ra))] (by decide +kernel) rfl (Nat.le_of_ble_eq_true rfl) rfl ?_
  intro p e s m args below meth c A C hr9 hk hnm
  have C : zC p s m args c cX5_errorOffset 1 wsX5_errorOffset RX5 D (zTy κ) A := C
  have hin5 : ∀ w ∈ wsX50, w ∈ wsX5_errorOffset := fun w h => List.mem_cons_of_mem _ (List.mem_append_left _ (List.mem_append_right _ h))
  have hin2 : ∀ w ∈ wsX20, w ∈ wsX5_errorOffset := fun w h => List.mem_cons_of_mem _ (List.mem_append_right _ h)
  have k39 : Cond.fieldLink RX5 39 "PeatRailway" "parser" "LPeatRailway$Parser;" ∈ wsX5_errorOffset := by decide +kernel
  have k113 : Cond.fieldLink RX5 113 "PeatRailway$Parser" "errorOffset" "I" ∈ wsX5_errorOffset := by decide +kernel
  refine z_eq (ws' := RC ra c9 f9 h9 a9 b9 (Pa 0) o9 ++ (PW κ Pa Pr eo v tx ++ [])) ?_ rfl rfl rfl rfl
  refine z_aload_n C dX5_errorOffset_0 0 rfl ?_
  refine z_get C hin5 0 rfl rfl 5 (by decide) k39 rfl dX5_errorOffset_1 ?_
  refine z_get C hin2 1 rfl rfl 3 (by decide) k113 rfl dX5_errorOffset_4 ?_
  exact z_iret C hr9 hk (()) (rfl) (trivial) (List.Perm.of_eq rfl) dX5_errorOffset_7 (Nat.le_refl _) (Nat.le_refl _)
theorem hdX5_errorOffset : yX5_errorOffset.cls = RX5 ∧ yX5_errorOffset.cls ≠ "java/lang/invoke/MethodHandle" ∧ yX5_errorOffset.cls ≠ "java/lang/invoke/VarHandle" ∧ (parseMethodDescriptor yX5_errorOffset.desc).map (fun d => d.parameters.length) = some 0 := by decide +kernel
end X8
