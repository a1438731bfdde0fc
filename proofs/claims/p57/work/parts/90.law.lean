section LAW
theorem nI_j {a b : Nat} (ha : a < 2147483648) (hb : b < 2147483648) (h : nI a = nI b) : a = b := by
  have h1 := congrArg Int32.toInt (show Int32.ofNat a = Int32.ofNat b from h)
  rwa [Int32.toInt_ofNat_of_lt ha, Int32.toInt_ofNat_of_lt hb, Int.ofNat_inj] at h1
theorem isB_out {n k : Nat} (h : n ≤ k) (hk : k < 2147483648) (hn : n ≤ 1000) : isB n (nI k) = false := by
  rcases h1 : isB n (nI k) with _ | _
  · rfl
  · obtain ⟨j, hj, e⟩ := isB_of hn h1
    have := nI_j hk (by omega) e
    omega
theorem isB_m1 {n : Nat} (hn : n ≤ 1000) : isB n (-1) = false := by
  rcases h1 : isB n (-1) with _ | _
  · rfl
  · obtain ⟨j, hj, e⟩ := isB_of hn h1
    exact absurd e.symm (nI_neg1 (by omega))
theorem lcs (x : Int64) : lg_cmp x x = 0 := (lg_cmp_eq x x).mpr rfl
theorem ge_m3 {k : Nat} (h : k < 2147483648) : ¬ nI k < -3 := fun q => absurd (Int32.lt_of_lt_of_le q (show (-3 : Int32) ≤ nI 0 by decide)) (Int32.not_lt.mpr (nI_pos' h))
abbrev ZW (κ : Nat → ClassId) (la lb : Nat) (A : Nat → Nat → Nat) (g1 g2 gp : Nat → Nat → Nat) (f1 f2 n : Nat) (ot : Nat → Nat) (eo : Int32) (v : Nat → Nat) (tx : Nat → Int32) : va_W :=
  SW κ (A 3) g1 ++ (SO la (A 3 0) f1 ++ (SW κ (A 4) g2 ++ (SO lb (A 4 0) f2 ++ (OW κ (A 5) n ot ++ (SW κ (A 7) gp ++ PW κ (A 6) (A 7) eo v tx)))))
/-- the law's world -/
abbrev LWd (κ : Nat → ClassId) (ra la lb : Nat) (A : Nat → Nat → Nat) (Hs : Nat → Nat → Nat) (hf : Nat → Option Nat) (rr : Nat) (g f g1 g2 gp : Nat → Nat → Nat) (gh : Nat → Nat → Nat → Nat) (nx ct f1 f2 n : Nat) (ot : Nat → Nat) (eo : Int32) (v : Nat → Nat) (tx ρ : Nat → Int32) : va_W :=
  SW κ (A 1) f ++ (kW κ (A 0) (A 2) Hs hf ra (A 1 0) la lb (A 6 0) (A 5 0) g nx ct gh ++ (RAW κ rr ρ ++ ZW κ la lb A g1 g2 gp f1 f2 n ot eo v tx))
abbrev RML : Room := { frames := 2048, cells := 600086, slots := 7301442, locals := 84000 }
section PLS
variable {α : Type} {F S R H W Q Z T K a b c d e p q : List α}
theorem pl_n : (F ++ ((S ++ (R ++ (H ++ W))) ++ (Q ++ Z))).Perm (Q ++ (F ++ ((S ++ (R ++ (H ++ W))) ++ Z))) := by
  classical
  exact List.perm_iff_count.mpr (fun x => by simp only [List.count_append]; omega)
theorem pl_a : (F ++ ((S ++ (R ++ (H ++ W))) ++ (Q ++ Z))).Perm ((F ++ ((S ++ (R ++ (H ++ W))) ++ Q)) ++ Z) := by
  classical
  exact List.perm_iff_count.mpr (fun x => by simp only [List.count_append]; omega)
theorem pl_r : (F ++ ((S ++ (R ++ (H ++ W))) ++ (Q ++ Z))).Perm ((S ++ R) ++ (F ++ ((H ++ W) ++ (Q ++ Z)))) := by
  classical
  exact List.perm_iff_count.mpr (fun x => by simp only [List.count_append]; omega)
theorem pl_t : (F ++ ((S ++ (R ++ (H ++ W))) ++ (Q ++ Z))).Perm ((F ++ (S ++ R)) ++ ((H ++ W) ++ (Q ++ Z))) := by
  classical
  exact List.perm_iff_count.mpr (fun x => by simp only [List.count_append]; omega)
theorem pl_k : (F ++ ((S ++ (R ++ (H ++ W))) ++ (Q ++ Z))).Perm ((S ++ (R ++ (H ++ W))) ++ (F ++ (Q ++ Z))) := by
  classical
  exact List.perm_iff_count.mpr (fun x => by simp only [List.count_append]; omega)
theorem pl_w : ((T ++ Q) ++ (F ++ ((S ++ (R ++ (H ++ W))) ++ Z))).Perm (T ++ (F ++ ((S ++ (R ++ (H ++ W))) ++ (Q ++ Z)))) := by
  classical
  exact List.perm_iff_count.mpr (fun x => by simp only [List.count_append]; omega)
theorem pl_l : (T ++ (F ++ ((S ++ (R ++ (H ++ W))) ++ (Q ++ (a ++ (b ++ (c ++ (d ++ (e ++ (p ++ q)))))))))).Perm (((S ++ (R ++ (H ++ (b ++ (d ++ (p ++ q)))))) ++ T) ++ (F ++ (W ++ (Q ++ (a ++ (c ++ e)))))) := by
  classical
  exact List.perm_iff_count.mpr (fun x => by simp only [List.count_append]; omega)
theorem pl_m : (((S ++ (R ++ (H ++ (b ++ (d ++ (p ++ q)))))) ++ T) ++ (F ++ (W ++ (Q ++ (a ++ (c ++ e)))))).Perm ((F ++ ((S ++ (R ++ (H ++ W))) ++ (Q ++ (a ++ (b ++ (c ++ (d ++ (e ++ (p ++ q))))))))) ++ T) := by
  classical
  exact List.perm_iff_count.mpr (fun x => by simp only [List.count_append]; omega)
theorem pl_sa : (F ++ ((S ++ (R ++ (H ++ W))) ++ (Q ++ (a ++ (b ++ (c ++ (d ++ (e ++ (p ++ q))))))))).Perm ((S ++ (R ++ (a ++ b))) ++ (F ++ ((H ++ W) ++ (Q ++ (c ++ (d ++ (e ++ (p ++ q)))))))) := by
  classical
  exact List.perm_iff_count.mpr (fun x => by simp only [List.count_append]; omega)
theorem pl_sb : (F ++ ((S ++ (R ++ (H ++ W))) ++ (Q ++ (a ++ (b ++ (c ++ (d ++ (e ++ (p ++ q))))))))).Perm ((S ++ (R ++ (c ++ d))) ++ (F ++ ((H ++ W) ++ (Q ++ (a ++ (b ++ (e ++ (p ++ q)))))))) := by
  classical
  exact List.perm_iff_count.mpr (fun x => by simp only [List.count_append]; omega)
theorem pl_ra : (F ++ ((S ++ (R ++ (H ++ W))) ++ (Q ++ (a ++ (b ++ (c ++ (d ++ (e ++ (p ++ q))))))))).Perm ((S ++ (R ++ ((a ++ b) ++ (H ++ W)))) ++ (F ++ (Q ++ (c ++ (d ++ (e ++ (p ++ q))))))) := by
  classical
  exact List.perm_iff_count.mpr (fun x => by simp only [List.count_append]; omega)
theorem pl_rb : (F ++ ((S ++ (R ++ (H ++ W))) ++ (Q ++ (a ++ (b ++ (c ++ (d ++ (e ++ (p ++ q))))))))).Perm ((S ++ (R ++ ((c ++ d) ++ (H ++ W)))) ++ (F ++ (Q ++ (a ++ (b ++ (e ++ (p ++ q))))))) := by
  classical
  exact List.perm_iff_count.mpr (fun x => by simp only [List.count_append]; omega)
theorem pl_0 : ((S ++ (R ++ (F ++ (H ++ (W ++ (a ++ (b ++ (c ++ (d ++ (e ++ (p ++ q))))))))))) ++ Q).Perm (F ++ ((S ++ (R ++ (H ++ W))) ++ (Q ++ (a ++ (b ++ (c ++ (d ++ (e ++ (p ++ q))))))))) := by
  classical
  exact List.perm_iff_count.mpr (fun x => by simp only [List.count_append]; omega)
end PLS
variable {p : Program} {l : Launch} {e : Env} {s : State} {m : MethodId} {args : Array Value} {below : List Frame} {meth : Method} {c : Code} {D : va_G} {A : Nat → Prop} {Q : State → Prop} {sc L : Nat} {xs : Nat → Int32} {κ : Nat → ClassId} {adK adV : Nat → Nat} {dO dT ra la lb rr no : Nat} {AA : Nat → Nat → Nat} {Hs : Nat → Nat → Nat} {hf : Nat → Option Nat} {ot : Nat → Nat}
set_option maxRecDepth 100000 in
set_option maxHeartbeats 16000000 in
theorem law_loop {g : Nat → Nat → Nat} {f : Nat → Nat → Nat} {g1 : Nat → Nat → Nat} {g2 : Nat → Nat → Nat} {gp : Nat → Nat → Nat} {gh : Nat → Nat → Nat → Nat} {nx : Nat} {ct : Nat} {f1 : Nat} {f2 : Nat} {eo : Int32} {v : Nat → Nat} {tx : Nat → Int32} {r9 : Nat → Int32} (C : zC p s m args c cL_law 11 wsL_law RL D (zTy κ) A) (hXc : wX adK adV dO dT A s s.heap) (hls : l.stackTraces = false) (hX : va_X sc L xs s s.heap) (hb0 : sc < s.heap.size) (hA0 : ¬ A sc) (hhf : ∀ j, j < 10 → hf j = some (Hs j 0)) (hL : L ≤ 260) (hv0 : v 1 = 0) (hnx0 : nx < 10) (KE : ∀ (ws : va_W) (lv : List (Nat × Value)) (c9 s9 : Nat), c9 ≤ 600086 → s9 ≤ 7301442 → zW p l e RML s m args below meth c 11 D A c9 s9 Q ws lv 384 [.int (nI 1)]) : zW p l e RML s m args below meth c 11 D A 210 3100 Q (LWd κ ra la lb AA Hs hf rr g f g1 g2 gp gh nx ct f1 f2 no ot eo v tx r9) [(0, .ref (sc)), (1, .ref (ra)), (2, .ref (rr)), (3, .int (nI 1)), (4, .int (nI 0))] 34 [] := by
  refine z_lv [0, 1, 2, 3, 4] rfl ?_
  refine z_loopA (σ := Nat × (Nat → Nat → Nat) × (Nat → Nat → Nat) × (Nat → Nat → Nat) × (Nat → Nat → Nat) × (Nat → Nat → Nat) × (Nat → Nat → Nat → Nat) × Nat × Nat × Nat × Nat × Int32 × (Nat → Nat) × (Nat → Int32) × (Nat → Int32)) (fun x => LWd κ ra la lb AA Hs hf rr x.2.1 x.2.2.1 x.2.2.2.1 x.2.2.2.2.1 x.2.2.2.2.2.1 x.2.2.2.2.2.2.1 x.2.2.2.2.2.2.2.1 x.2.2.2.2.2.2.2.2.1 x.2.2.2.2.2.2.2.2.2.1 x.2.2.2.2.2.2.2.2.2.2.1 no ot x.2.2.2.2.2.2.2.2.2.2.2.1 x.2.2.2.2.2.2.2.2.2.2.2.2.1 x.2.2.2.2.2.2.2.2.2.2.2.2.2.1 x.2.2.2.2.2.2.2.2.2.2.2.2.2.2) (fun x => [(0, .ref (sc)), (1, .ref (ra)), (2, .ref (rr)), (3, .int (nI 1)), (4, .int (nI x.1))]) (fun x => 210 + 400 * x.1) (fun x => 3100 + 80000 * x.1) (fun x => x.1 ≤ 2 ∧ x.2.2.2.2.2.2.2.2.2.2.2.2.1 1 = 0 ∧ x.2.2.2.2.2.2.2.1 < 10) (fun x => 2 - x.1) ((0, g, f, g1, g2, gp, gh, nx, ct, f1, f2, eo, v, tx, r9)) (⟨Nat.zero_le _, hv0, hnx0⟩) rfl rfl (by show _ ≤ 210 + 400 * 0; omega) (by show _ ≤ 3100 + 80000 * 0; omega) ?_
  rintro ⟨kq, g, f, g1, g2, gp, gh, nx, ct, f1, f2, eo, v, tx, r9⟩ hI34 ih34
  dsimp only at hI34 ih34 ⊢
  obtain ⟨hq2, hv1, hnx⟩ := hI34
  refine z_iload C dL_law_34 4 rfl ?_
  refine z_iconst (v := nI 2) C dL_law_36 (by decide) ?_
  refine zn_icmp_ge C 383 dL_law_37 (by decide) (by omega) (by omega) (fun h1 => ?_) (fun h2 => ?_)
  · refine z_iload_n C dL_law_383 3 rfl ?_
    exact KE _ _ _ _ (by omega) (by omega)
  · refine z_iload_n C dL_law_40 3 rfl ?_
    refine zn_if_eq C 383 dL_law_41 (by decide) (by omega) (fun _ => by exfalso; omega) (fun _ => ?_)
    refine z_aload_n C dL_law_44 2 rfl ?_
    refine z_iconst (v := nI 0) C dL_law_45 (by decide) ?_
    refine z_dup2 C dL_law_46 rfl rfl ?_
    refine z_ws (ws' := RAW κ rr r9 ++ (SW κ (AA 1) f ++ (kW κ (AA 0) (AA 2) Hs hf ra (AA 1 0) la lb (AA 6 0) (AA 5 0) g nx ct gh ++ ZW κ la lb AA g1 g2 gp f1 f2 no ot eo v tx))) pl_n ?_
    refine z_iald C 0 0 rfl rfl (i := 0) (by decide) (by decide) dL_law_47 ?_
    refine z_ws (ws' := LWd κ ra la lb AA Hs hf rr g f g1 g2 gp gh nx ct f1 f2 no ot eo v tx r9) pl_n.symm ?_
    refine z_iload C dL_law_48 4 rfl ?_
    refine z_aload_n C dL_law_50 0 rfl ?_
    refine z_slen C hX hb0 hA0 dL_law_51 ?_
    refine z_cut (α := Int32) (fun x7 => True) (fun x7 => LWd κ ra la lb AA Hs hf rr g f g1 g2 gp gh nx ct f1 f2 no ot eo v tx r9) (fun x7 => [(0, .ref (sc)), (1, .ref (ra)), (2, .ref (rr)), (3, .int (nI 1)), (4, .int (nI kq))]) (fun x7 => [.int (x7), .int (r9 0), .int (nI 0), .ref (rr)]) 63 (fun x7 hx63 => ?_) (fun cut63 => ?_)
    · refine z_ixor C dL_law_63 ?_
      refine z_ws (ws' := RAW κ rr r9 ++ (SW κ (AA 1) f ++ (kW κ (AA 0) (AA 2) Hs hf ra (AA 1 0) la lb (AA 6 0) (AA 5 0) g nx ct gh ++ ZW κ la lb AA g1 g2 gp f1 f2 no ot eo v tx))) pl_n ?_
      refine z_iast C 0 0 rfl rfl (i := 0) (by decide) (by decide) dL_law_64 (RAW κ rr (upd r9 0 (((r9 0) ^^^ x7))) ++ (SW κ (AA 1) f ++ (kW κ (AA 0) (AA 2) Hs hf ra (AA 1 0) la lb (AA 6 0) (AA 5 0) g nx ct gh ++ ZW κ la lb AA g1 g2 gp f1 f2 no ot eo v tx))) rfl ?_
      refine z_ws (ws' := LWd κ ra la lb AA Hs hf rr g f g1 g2 gp gh nx ct f1 f2 no ot eo v tx (upd r9 0 (((r9 0) ^^^ x7)))) pl_n.symm ?_
      refine z_iconst (v := nI 1) C dL_law_65 (by decide) ?_
      refine z_aload_n C dL_law_66 2 rfl ?_
      refine z_callS C (mL_next l D κ rr (upd r9 0 (((r9 0) ^^^ x7)))) gL_law_L_next rfl rfl rfl hdL_next ⟨(Nat.le_of_ble_eq_true rfl), (Nat.le_of_ble_eq_true rfl)⟩ (SW κ (AA 1) f ++ (kW κ (AA 0) (AA 2) Hs hf ra (AA 1 0) la lb (AA 6 0) (AA 5 0) g nx ct gh ++ ZW κ la lb AA g1 g2 gp f1 f2 no ot eo v tx)) (fun u => LWd κ ra la lb AA Hs hf rr g f g1 g2 gp gh nx ct f1 f2 no ot eo v tx (u.2)) pl_n (fun _ => pl_n.symm) rfl (Nat.le_of_ble_eq_true rfl) dL_law_67 ⟨(by show _ ≤ 600086; omega), (by show _ ≤ 7301442; omega)⟩ (fun dr1 hdr1 => ?_)
      refine z_bipush (v := nI 10) C dL_law_70 (by decide) ?_
      refine zn_irem C dL_law_72 (by omega) (by omega) (by omega) ?_
      refine zn_iadd C dL_law_73 ?_
      generalize hq74 : 1 + ((dr1.1) % 10) = b
      have hb74 : 1 ≤ b ∧ b ≤ 10 := by omega
      refine z_istore C [(5, .int (nI b)), (0, .ref (sc)), (1, .ref (ra)), (2, .ref (rr)), (3, .int (nI 1)), (4, .int (nI kq))] dL_law_74 (by decide) rfl ?_
      refine z_aload_n C dL_law_76 2 rfl ?_
      refine z_iload C dL_law_77 0 rfl ?_
      refine z_aload_n C dL_law_79 3 rfl ?_
      refine z_callS C (mL_next l D κ rr (dr1.2)) gL_law_L_next rfl rfl rfl hdL_next ⟨(Nat.le_of_ble_eq_true rfl), (Nat.le_of_ble_eq_true rfl)⟩ (SW κ (AA 1) f ++ (kW κ (AA 0) (AA 2) Hs hf ra (AA 1 0) la lb (AA 6 0) (AA 5 0) g nx ct gh ++ ZW κ la lb AA g1 g2 gp f1 f2 no ot eo v tx)) (fun u => LWd κ ra la lb AA Hs hf rr g f g1 g2 gp gh nx ct f1 f2 no ot eo v tx (u.2)) pl_n (fun _ => pl_n.symm) rfl (Nat.le_of_ble_eq_true rfl) dL_law_80 ⟨(by show _ ≤ 600086; omega), (by show _ ≤ 7301442; omega)⟩ (fun dr2 hdr2 => ?_)
      refine z_iload C dL_law_83 0 rfl ?_
      refine z_iconst (v := nI 1) C dL_law_85 (by decide) ?_
      refine zn_iadd C dL_law_86 ?_
      refine z_iconst (v := nI 2) C dL_law_87 (by decide) ?_
      refine zn_idiv C dL_law_88 (by omega) (by omega) (by omega) ?_
      refine z_iconst (v := nI 1) C dL_law_89 (by decide) ?_
      refine zn_iadd C dL_law_90 ?_
      have hm91 := Nat.mod_lt (dr2.1) (show 0 < ((b + 1) / 2) + 1 by omega)
      refine zn_irem C dL_law_91 (by omega) (by omega) (by omega) ?_
      generalize hq92 : (dr2.1) % (((b + 1) / 2) + 1) = t9 at hm91
      refine z_aload_n C dL_law_92 3 rfl ?_
      refine z_callSc C (wX_ok adK adV dO dT) hXc (mL_railway l D κ adK adV dO dT b t9 rr (dr2.2) hb74.1 hb74.2 (by omega) (by omega)) gL_law_L_railway rfl rfl rfl hdL_railway ⟨(Nat.le_of_ble_eq_true rfl), (Nat.le_of_ble_eq_true rfl)⟩ (SW κ (AA 1) f ++ (kW κ (AA 0) (AA 2) Hs hf ra (AA 1 0) la lb (AA 6 0) (AA 5 0) g nx ct gh ++ ZW κ la lb AA g1 g2 gp f1 f2 no ot eo v tx)) (fun u => STW κ u.1 u.2.1 u.2.2.1 u.2.2.2.1 ++ LWd κ ra la lb AA Hs hf rr g f g1 g2 gp gh nx ct f1 f2 no ot eo v tx (u.2.2.2.2)) pl_n (fun _ => pl_w) rfl (Nat.le_of_ble_eq_true rfl) dL_law_93 ⟨(by show _ ≤ 600086; omega), (by show _ ≤ 7301442; omega)⟩ (fun st hst => ?_)
      obtain ⟨hm9, h89, σ0, hR, hT⟩ := hst
      refine zh_callS C (cX_ok adK adV) hXc.1.1.1 (mL_load_ok l D κ adK adV (AA 0) (AA 2) (AA 6) (AA 7) hf ra (AA 1 0) la lb (AA 5 0) (AA 3 0) (AA 4 0) nx ct f1 f2 g gp eo v tx st.1 st.2.1 st.2.2.1 st.2.2.2.1 σ0 hv1 hm9 h89 hT) gL_law_L_load rfl rfl rfl hdL_load ⟨(Nat.le_of_ble_eq_true rfl), (Nat.le_of_ble_eq_true rfl)⟩ (SW κ (AA 1) f ++ (hW κ Hs gh 10 ++ (RAW κ rr (st.2.2.2.2) ++ (SW κ (AA 3) g1 ++ (SW κ (AA 4) g2 ++ OW κ (AA 5) no ot))))) (fun u => LWd κ ra la lb AA Hs hf rr (u.1.1) f g1 g2 (u.1.2.1) gh nx 0 0 0 no ot (u.1.2.2.1) (u.1.2.2.2) (u.2) (st.2.2.2.2) ++ STW κ st.1 st.2.1 st.2.2.1 st.2.2.2.1) pl_l (fun _ => pl_m) rfl (Nat.le_of_ble_eq_true rfl) dL_law_96 ⟨(by show _ ≤ 600086; omega), (by show _ ≤ 7301442; omega)⟩ (fun w9 hw9 => ?_)
      obtain ⟨hr0, hi0, hv9⟩ := hw9
      refine z_drop (w' := LWd κ ra la lb AA Hs hf rr (w9.1.1) f g1 g2 (w9.1.2.1) gh nx 0 0 0 no ot (w9.1.2.2.1) (w9.1.2.2.2) (w9.2) (st.2.2.2.2)) (STW κ st.1 st.2.1 st.2.2.1 st.2.2.2.1) (List.Perm.refl _) ?_
      have e1 : σ0 1 = b := hR.2.1
      have e0 : σ0 0 = 0 := hR.1
      have hg0 : Good 330020 0 σ0 := ⟨hi0.mono (by omega) (by omega), hR.bal, by omega, by omega⟩
      have hj0 : HJ 330020 0 nx 0 gh := ⟨hnx, by decide, fun i hi => absurd hi (Nat.not_lt_zero i)⟩
      refine z_iload C dL_law_99 0 rfl ?_
      refine zn_icmp_ne C 117 dL_law_101 (by decide) (by omega) (by omega) (fun _ => by exfalso; omega) (fun _ => ?_)
      refine z_aload_n C dL_law_104 2 rfl ?_
      refine z_iload C dL_law_105 5 rfl ?_
      refine z_cut (α := (Nat → Nat → Nat) × (Nat → Nat → Nat) × Nat × Nat) (fun x9 => Rep (if kq = 0 then x9.1 else x9.2.1) σ0 ∧ (if kq = 0 then x9.2.2.1 else x9.2.2.2) = 1) (fun x9 => LWd κ ra la lb AA Hs hf rr (w9.1.1) f (x9.1) (x9.2.1) (w9.1.2.1) gh nx 0 (x9.2.2.1) (x9.2.2.2) no ot (w9.1.2.2.1) (w9.1.2.2.2) (w9.2) (st.2.2.2.2)) (fun x9 => [(5, .int (nI b)), (0, .ref (sc)), (1, .ref (ra)), (2, .ref (rr)), (3, .int (nI 1)), (4, .int (nI kq))]) (fun x9 => [.int (nI (σ0 0))]) 110 (fun x9 hx110 => ?_) (fun cut110 => ?_)
      · obtain ⟨s1, s2, e3, e4⟩ := x9
        obtain ⟨hrs, hfs⟩ := hx110
        dsimp only at hrs hfs ⊢
        refine zn_if_ne C 117 dL_law_110 (by decide) (by omega) (fun _ => by exfalso; omega) (fun _ => ?_)
        refine z_iconst (v := nI 1) C dL_law_113 (by decide) ?_
        refine z_goto (tgt := 118) C dL_law_114 (by decide) ?_
        refine z_istore_n C [(3, .int (nI 1)), (5, .int (nI b)), (0, .ref (sc)), (1, .ref (ra)), (2, .ref (rr)), (4, .int (nI kq))] dL_law_118 (by decide) rfl ?_
        refine z_aload_n C dL_law_119 3 rfl ?_
        refine z_callS C (mL_sum l D κ (AA 0) (w9.1.1) ra (AA 1 0) (AA 2 0) la lb (AA 6 0) (AA 5 0) σ0 330020 hr0 hg0.1) gL_law_L_sum rfl rfl rfl hdL_sum ⟨(Nat.le_of_ble_eq_true rfl), (Nat.le_of_ble_eq_true rfl)⟩ (SW κ (AA 1) f ++ ((HO κ (AA 2) hf nx 0 ++ hW κ Hs gh 10) ++ (RAW κ rr (st.2.2.2.2) ++ ZW κ la lb AA s1 s2 (w9.1.2.1) e3 e4 no ot (w9.1.2.2.1) (w9.1.2.2.2) (w9.2)))) (fun _ => LWd κ ra la lb AA Hs hf rr (w9.1.1) f s1 s2 (w9.1.2.1) gh nx 0 e3 e4 no ot (w9.1.2.2.1) (w9.1.2.2.2) (w9.2) (st.2.2.2.2)) pl_r (fun _ => pl_r.symm) rfl (Nat.le_of_ble_eq_true rfl) dL_law_120 ⟨(by show _ ≤ 600086; omega), (by show _ ≤ 7301442; omega)⟩ (fun _ _ => ?_)
        refine z_lstore C [(6, .long (smV σ0)), (3, .int (nI 1)), (5, .int (nI b)), (0, .ref (sc)), (1, .ref (ra)), (2, .ref (rr)), (4, .int (nI kq))] dL_law_123 (by decide) rfl ?_
        refine z_iconst (v := nI 0) C dL_law_125 (by decide) ?_
        refine z_istore C [(8, .int (nI 0)), (6, .long (smV σ0)), (3, .int (nI 1)), (5, .int (nI b)), (0, .ref (sc)), (1, .ref (ra)), (2, .ref (rr)), (4, .int (nI kq))] dL_law_126 (by decide) rfl ?_
        refine z_lv [4, 5, 6, 2, 7, 3, 1, 0] rfl ?_
        refine z_loopA (σ := Nat × (Nat → Nat → Nat) × (Nat → Nat → Nat) × (Nat → Nat → Nat → Nat) × Nat × Nat × (Nat → Int32) × (Nat → Nat)) (fun x => LWd κ ra la lb AA Hs hf rr x.2.1 x.2.2.1 s1 s2 (w9.1.2.1) x.2.2.2.1 x.2.2.2.2.1 x.2.2.2.2.2.1 e3 e4 no ot (w9.1.2.2.1) (w9.1.2.2.2) (w9.2) x.2.2.2.2.2.2.1) (fun x => [(0, .ref (sc)), (1, .ref (ra)), (2, .ref (rr)), (3, .int (nI 1)), (4, .int (nI kq)), (5, .int (nI b)), (6, .long (smV σ0)), (8, .int (nI x.1))]) (fun x => 320 + 400 * kq + 11 * x.1) (fun x => 73200 + 80000 * kq + 66 * x.1) (fun x => x.1 ≤ 16 ∧ Rep x.2.1 x.2.2.2.2.2.2.2 ∧ Good (330020 + 200 * x.1) (12 * x.1) x.2.2.2.2.2.2.2 ∧ HJ (330020 + 200 * x.1) (12 * x.1) x.2.2.2.2.1 x.2.2.2.2.2.1 x.2.2.2.1) (fun x => 16 - x.1) ((0, w9.1.1, f, gh, nx, 0, st.2.2.2.2, σ0)) (⟨Nat.zero_le _, hr0, hg0, hj0⟩) rfl rfl (by show _ ≤ 320 + 400 * kq + 11 * 0; omega) (by show _ ≤ 73200 + 80000 * kq + 66 * 0; omega) ?_
        rintro ⟨ku, gu, fu, hu, nu, cu, ru, σ⟩ hI128 ih128
        dsimp only at hI128 ih128 ⊢
        obtain ⟨hu16, hr, hg, hj⟩ := hI128
        refine z_iload C dL_law_128 7 rfl ?_
        refine z_bipush (v := nI 16) C dL_law_130 (by decide) ?_
        refine zn_icmp_ge C 301 dL_law_132 (by decide) (by omega) (by omega) (fun h3 => ?_) (fun h4 => ?_)
        · refine z_iload_n C dL_law_301 3 rfl ?_
          refine zn_if_eq C 377 dL_law_302 (by decide) (by omega) (fun _ => by exfalso; omega) (fun _ => ?_)
          refine z_aload_n C dL_law_305 2 rfl ?_
          refine z_callS C (mL_next l D κ rr ru) gL_law_L_next rfl rfl rfl hdL_next ⟨(Nat.le_of_ble_eq_true rfl), (Nat.le_of_ble_eq_true rfl)⟩ (SW κ (AA 1) fu ++ (kW κ (AA 0) (AA 2) Hs hf ra (AA 1 0) la lb (AA 6 0) (AA 5 0) gu nu cu hu ++ ZW κ la lb AA s1 s2 (w9.1.2.1) e3 e4 no ot (w9.1.2.2.1) (w9.1.2.2.2) (w9.2))) (fun u => LWd κ ra la lb AA Hs hf rr gu fu s1 s2 (w9.1.2.1) hu nu cu e3 e4 no ot (w9.1.2.2.1) (w9.1.2.2.2) (w9.2) (u.2)) pl_n (fun _ => pl_n.symm) rfl (Nat.le_of_ble_eq_true rfl) dL_law_306 ⟨(by show _ ≤ 600086; omega), (by show _ ≤ 7301442; omega)⟩ (fun dr3 hdr3 => ?_)
          refine z_iconst (v := nI 2) C dL_law_309 (by decide) ?_
          refine zn_irem C dL_law_310 (by omega) (by omega) (by omega) ?_
          refine zn_if_ne C 377 dL_law_311 (by decide) (by omega) (fun h5 => ?_) (fun h6 => ?_)
          · refine zn_iinc (n := 1) C [(4, .int (nI (kq + 1))), (0, .ref (sc)), (1, .ref (ra)), (2, .ref (rr)), (3, .int (nI 1)), (5, .int (nI b)), (6, .long (smV σ0)), (8, .int (nI ku))] dL_law_377 4 rfl (by decide) rfl ?_
            refine z_goto (tgt := 34) C dL_law_380 (by decide) ?_
            refine z_lv [1, 2, 3, 4, 0] rfl ?_
            exact z_wid (by show _ ≤ 210 + 400 * (kq + 1); omega) (by show _ ≤ 3100 + 80000 * (kq + 1); omega) (ih34 (kq + 1, gu, fu, s1, s2, w9.1.2.1, hu, nu, cu, e3, e4, w9.1.2.2.1, w9.1.2.2.2, w9.2, dr3.2) (⟨by omega, hv9, hj.1⟩) (by show 2 - (kq + 1) < 2 - kq; omega))
          · refine z_aload_n C dL_law_314 1 rfl ?_
            refine z_iload C dL_law_315 4 rfl ?_
            refine z_cut (α := (Nat → Nat → Nat) × (Nat → Nat → Nat) × Nat × Nat) (fun x8 => Rep x8.1 σ ∧ Rep x8.2.1 σ0) (fun x8 => LWd κ ra la lb AA Hs hf rr (x8.2.1) fu s1 s2 (w9.1.2.1) (upS hu nu x8.1) (fwN nu) (mnN cu) (x8.2.2.1) (x8.2.2.2) no ot (w9.1.2.2.1) (w9.1.2.2.2) (w9.2) (dr3.2)) (fun x8 => [(0, .ref (sc)), (1, .ref (ra)), (2, .ref (rr)), (3, .int (nI 1)), (4, .int (nI kq)), (5, .int (nI b)), (6, .long (smV σ0)), (8, .int (nI ku))]) (fun x8 => [.int (nI (σ0 0))]) 320 (fun x8 hx320 => ?_) (fun cut320 => ?_)
            · obtain ⟨hx8o, hx8r⟩ := hx320
              have hx8g : Good (330020 + 200 * ku) (12 * ku) σ0 := hg0.mo (by omega) (by omega) (by omega)
              have hx8j := hj.push hg hx8o
              refine zn_if_ne C 337 dL_law_320 (by decide) (by omega) (fun _ => by exfalso; omega) (fun _ => ?_)
              refine z_aload_n C dL_law_323 1 rfl ?_
              refine z_callS C (mL_sum l D κ (AA 0) (x8.2.1) ra (AA 1 0) (AA 2 0) la lb (AA 6 0) (AA 5 0) σ0 (330020 + 200 * ku) hx8r hx8g.1) gL_law_L_sum rfl rfl rfl hdL_sum ⟨(Nat.le_of_ble_eq_true rfl), (Nat.le_of_ble_eq_true rfl)⟩ (SW κ (AA 1) fu ++ ((HO κ (AA 2) hf (fwN nu) (mnN cu) ++ hW κ Hs (upS hu nu x8.1) 10) ++ (RAW κ rr (dr3.2) ++ ZW κ la lb AA s1 s2 (w9.1.2.1) (x8.2.2.1) (x8.2.2.2) no ot (w9.1.2.2.1) (w9.1.2.2.2) (w9.2)))) (fun _ => LWd κ ra la lb AA Hs hf rr (x8.2.1) fu s1 s2 (w9.1.2.1) (upS hu nu x8.1) (fwN nu) (mnN cu) (x8.2.2.1) (x8.2.2.2) no ot (w9.1.2.2.1) (w9.1.2.2.2) (w9.2) (dr3.2)) pl_r (fun _ => pl_r.symm) rfl (Nat.le_of_ble_eq_true rfl) dL_law_324 ⟨(by show _ ≤ 600086; omega), (by show _ ≤ 7301442; omega)⟩ (fun _ _ => ?_)
              refine z_lload C dL_law_327 6 rfl ?_
              refine z_lcmp C dL_law_329 ?_
              refine z_if_ne C 337 dL_law_330 (by decide) (fun q => absurd (lcs _) q) (fun _ => ?_)
              refine z_iconst (v := nI 1) C dL_law_333 (by decide) ?_
              refine z_goto (tgt := 338) C dL_law_334 (by decide) ?_
              refine z_istore_n C [(3, .int (nI 1)), (0, .ref (sc)), (1, .ref (ra)), (2, .ref (rr)), (4, .int (nI kq)), (5, .int (nI b)), (6, .long (smV σ0)), (8, .int (nI ku))] dL_law_338 (by decide) rfl ?_
              refine z_iload_n C dL_law_339 0 rfl ?_
              refine zn_if_eq C 375 dL_law_340 (by decide) (by omega) (fun _ => by exfalso; omega) (fun _ => ?_)
              refine z_aload_n C dL_law_343 2 rfl ?_
              refine z_iload C dL_law_344 5 rfl ?_
              refine z_iconst (v := nI 1) C dL_law_346 (by decide) ?_
              refine zn_isub C dL_law_347 (by omega) ?_
              rcases Nat.eq_zero_or_pos (trAt σ0 (b - 1)) with hz9 | hz9
              · refine zh_callS C (aX_ok adK adV) hXc.1.1 (mL_repaired_ok l D κ (AA 0) (AA 2) Hs hf ra (AA 1 0) la lb (AA 6 0) (AA 5 0) (x8.2.1) (fwN nu) (mnN cu) (upS hu nu x8.1) σ0 (330020 + 200 * ku) (b - 1) hx8r hx8g.1 hhf hx8j.1 hx8j.2.1 (by omega) hz9 adK adV) gL_law_L_repaired rfl rfl rfl hdL_repaired ⟨(Nat.le_of_ble_eq_true rfl), (Nat.le_of_ble_eq_true rfl)⟩ (SW κ (AA 1) fu ++ (RAW κ rr (dr3.2) ++ ZW κ la lb AA s1 s2 (w9.1.2.1) (x8.2.2.1) (x8.2.2.2) no ot (w9.1.2.2.1) (w9.1.2.2.2) (w9.2))) (fun u => LWd κ ra la lb AA Hs hf rr (u.2) fu s1 s2 (w9.1.2.1) (upS (upS hu nu x8.1) (fwN nu) u.1) (fwN (fwN nu)) (mnN (mnN cu)) (x8.2.2.1) (x8.2.2.2) no ot (w9.1.2.2.1) (w9.1.2.2.2) (w9.2) (dr3.2)) pl_k (fun _ => pl_k.symm) rfl (Nat.le_of_ble_eq_true rfl) dL_law_348 ⟨(by show _ ≤ 600086; omega), (by show _ ≤ 7301442; omega)⟩ (fun ch4 hch4 => ?_)
                have hjch4 := hx8j.push hx8g hch4.1
                have gdch4 : Good (330020 + 200 * ku) (12 * ku) (upN σ0 (5 + 6 * (b - 1) + 1) 0) := hx8g.dep (b := b - 1) (by omega)
                have hl9 : (upN σ0 (5 + 6 * (b - 1) + 1) 0) (5 + 6 * 0 + 5) = 0 := by rw [upN_n (by omega)]; exact hR.2.2.2.2.1 0 (by omega)
                have hbd9 := hx8g.1.bd (5 + 6 * (b - 1) + 1) (by omega) (by omega)
                have e91 : (upN σ0 (5 + 6 * (b - 1) + 1) 0) 1 = σ0 1 := upN_n (by omega)
                refine z_bipush (v := (-3)) C dL_law_351 (by decide) ?_
                refine z_icmp_lt C 375 dL_law_353 (by decide) (fun q => absurd q (ge_m3 (by omega))) (fun _ => ?_)
                refine z_aload_n C dL_law_356 2 rfl ?_
                refine z_iconst (v := nI 0) C dL_law_357 (by decide) ?_
                refine zh_callS C (aX_ok adK adV) hXc.1.1 (mL_removed_ok l D κ (AA 0) (AA 2) Hs hf ra (AA 1 0) la lb (AA 6 0) (AA 5 0) (ch4.2) (fwN (fwN nu)) (mnN (mnN cu)) (upS (upS hu nu x8.1) (fwN nu) ch4.1) (upN σ0 (5 + 6 * (b - 1) + 1) 0) (330020 + 200 * ku) 0 hch4.2 gdch4.1 hhf hjch4.1 hjch4.2.1 (by omega) adK adV) gL_law_L_removed rfl rfl rfl hdL_removed ⟨(Nat.le_of_ble_eq_true rfl), (Nat.le_of_ble_eq_true rfl)⟩ (SW κ (AA 1) fu ++ (RAW κ rr (dr3.2) ++ ZW κ la lb AA s1 s2 (w9.1.2.1) (x8.2.2.1) (x8.2.2.2) no ot (w9.1.2.2.1) (w9.1.2.2.2) (w9.2))) (fun u => LWd κ ra la lb AA Hs hf rr (u.2) fu s1 s2 (w9.1.2.1) (upS (upS (upS hu nu x8.1) (fwN nu) ch4.1) (fwN (fwN nu)) u.1) (fwN (fwN (fwN nu))) (mnN (mnN (mnN cu))) (x8.2.2.1) (x8.2.2.2) no ot (w9.1.2.2.1) (w9.1.2.2.2) (w9.2) (dr3.2)) pl_k (fun _ => pl_k.symm) rfl (Nat.le_of_ble_eq_true rfl) dL_law_358 ⟨(by show _ ≤ 600086; omega), (by show _ ≤ 7301442; omega)⟩ (fun ch5 hch5 => ?_)
                have hjch5 := hjch4.push gdch4 hch5.1
                have gdch5 : Good (330020 + 200 * ku) (12 * ku) (upN (upN (upN σ0 (5 + 6 * (b - 1) + 1) 0) (5 + 6 * 0 + 5) 0) 3 ((upN σ0 (5 + 6 * (b - 1) + 1) 0) 3 + (upN σ0 (5 + 6 * (b - 1) + 1) 0) (5 + 6 * 0 + 5))) := gdch4.rem (b := 0) (by omega)
                refine zn_if_ne C 375 dL_law_361 (by decide) (by omega) (fun _ => by exfalso; omega) (fun _ => ?_)
                refine z_aload_n C dL_law_364 2 rfl ?_
                obtain ⟨τun6, hqun6, gqun6⟩ := hjch5.top mnN_1
                refine zh_callS C (aX_ok adK adV) hXc.1.1 (mL_undone_ok l D κ (AA 0) (AA 2) Hs hf ra (AA 1 0) la lb (AA 6 0) (AA 5 0) (ch5.2) (fwN (fwN (fwN nu))) (mnN (mnN (mnN cu))) (upS (upS (upS hu nu x8.1) (fwN nu) ch4.1) (fwN (fwN nu)) ch5.1) (330020 + 200 * ku) τun6 hhf hjch5.1 hjch5.2.1 mnN_1 hqun6 gqun6.1 adK adV) gL_law_L_undone rfl rfl rfl hdL_undone ⟨(Nat.le_of_ble_eq_true rfl), (Nat.le_of_ble_eq_true rfl)⟩ (SW κ (AA 1) fu ++ (RAW κ rr (dr3.2) ++ ZW κ la lb AA s1 s2 (w9.1.2.1) (x8.2.2.1) (x8.2.2.2) no ot (w9.1.2.2.1) (w9.1.2.2.2) (w9.2))) (fun u => LWd κ ra la lb AA Hs hf rr u fu s1 s2 (w9.1.2.1) (upS (upS (upS hu nu x8.1) (fwN nu) ch4.1) (fwN (fwN nu)) ch5.1) (bkN (fwN (fwN (fwN nu)))) (mnN (mnN (mnN cu)) - 1) (x8.2.2.1) (x8.2.2.2) no ot (w9.1.2.2.1) (w9.1.2.2.2) (w9.2) (dr3.2)) pl_k (fun _ => pl_k.symm) rfl (Nat.le_of_ble_eq_true rfl) dL_law_365 ⟨(by show _ ≤ 600086; omega), (by show _ ≤ 7301442; omega)⟩ (fun un6 hun6 => ?_)
                have hjun6 := hjch5.pop mnN_1
                have hcbun6 := hjch5.2.1
                refine zn_if_lt C 375 dL_law_368 (by decide) (by omega) ?_
                refine z_iconst (v := nI 1) C dL_law_371 (by decide) ?_
                refine z_goto (tgt := 376) C dL_law_372 (by decide) ?_
                refine z_istore_n C [(3, .int (nI 1)), (0, .ref (sc)), (1, .ref (ra)), (2, .ref (rr)), (4, .int (nI kq)), (5, .int (nI b)), (6, .long (smV σ0)), (8, .int (nI ku))] dL_law_376 (by decide) rfl ?_
                refine zn_iinc (n := 1) C [(4, .int (nI (kq + 1))), (3, .int (nI 1)), (0, .ref (sc)), (1, .ref (ra)), (2, .ref (rr)), (5, .int (nI b)), (6, .long (smV σ0)), (8, .int (nI ku))] dL_law_377 4 rfl (by decide) rfl ?_
                refine z_goto (tgt := 34) C dL_law_380 (by decide) ?_
                refine z_lv [2, 3, 4, 1, 0] rfl ?_
                exact z_wid (by show _ ≤ 210 + 400 * (kq + 1); omega) (by show _ ≤ 3100 + 80000 * (kq + 1); omega) (ih34 (kq + 1, un6, fu, s1, s2, w9.1.2.1, upS (upS (upS hu nu x8.1) (fwN nu) ch4.1) (fwN (fwN nu)) ch5.1, bkN (fwN (fwN (fwN nu))), mnN (mnN (mnN cu)) - 1, x8.2.2.1, x8.2.2.2, w9.1.2.2.1, w9.1.2.2.2, w9.2, dr3.2) (⟨by omega, hv9, hjun6.1⟩) (by show 2 - (kq + 1) < 2 - kq; omega))
              · have hz9 : trAt σ0 (b - 1) ≠ 0 := by omega
                refine zh_callS C (aX_ok adK adV) hXc.1.1 (mL_repaired_bad l D κ adK adV (AA 0) (x8.2.1) ra (AA 1 0) (AA 2 0) la lb (AA 6 0) (AA 5 0) σ0 (330020 + 200 * ku) (b - 1) hls hx8r hx8g.1 (by omega) hz9) gL_law_L_repaired rfl rfl rfl hdL_repaired ⟨(Nat.le_of_ble_eq_true rfl), (Nat.le_of_ble_eq_true rfl)⟩ (SW κ (AA 1) fu ++ ((HO κ (AA 2) hf (fwN nu) (mnN cu) ++ hW κ Hs (upS hu nu x8.1) 10) ++ (RAW κ rr (dr3.2) ++ ZW κ la lb AA s1 s2 (w9.1.2.1) (x8.2.2.1) (x8.2.2.2) no ot (w9.1.2.2.1) (w9.1.2.2.2) (w9.2)))) (fun _ => LWd κ ra la lb AA Hs hf rr (x8.2.1) fu s1 s2 (w9.1.2.1) (upS hu nu x8.1) (fwN nu) (mnN cu) (x8.2.2.1) (x8.2.2.2) no ot (w9.1.2.2.1) (w9.1.2.2.2) (w9.2) (dr3.2)) pl_r (fun _ => pl_r.symm) rfl (Nat.le_of_ble_eq_true rfl) dL_law_348 ⟨(by show _ ≤ 600086; omega), (by show _ ≤ 7301442; omega)⟩ (fun _ _ => ?_)
                have hl9 : σ0 (5 + 6 * 0 + 5) = 0 := hR.2.2.2.2.1 0 (by omega)
                refine z_bipush (v := (-3)) C dL_law_351 (by decide) ?_
                refine z_icmp_lt C 375 dL_law_353 (by decide) (fun q => absurd q (by decide)) (fun _ => ?_)
                refine z_aload_n C dL_law_356 2 rfl ?_
                refine z_iconst (v := nI 0) C dL_law_357 (by decide) ?_
                refine zh_callS C (aX_ok adK adV) hXc.1.1 (mL_removed_ok l D κ (AA 0) (AA 2) Hs hf ra (AA 1 0) la lb (AA 6 0) (AA 5 0) (x8.2.1) (fwN nu) (mnN cu) (upS hu nu x8.1) σ0 (330020 + 200 * ku) 0 hx8r hx8g.1 hhf hx8j.1 hx8j.2.1 (by omega) adK adV) gL_law_L_removed rfl rfl rfl hdL_removed ⟨(Nat.le_of_ble_eq_true rfl), (Nat.le_of_ble_eq_true rfl)⟩ (SW κ (AA 1) fu ++ (RAW κ rr (dr3.2) ++ ZW κ la lb AA s1 s2 (w9.1.2.1) (x8.2.2.1) (x8.2.2.2) no ot (w9.1.2.2.1) (w9.1.2.2.2) (w9.2))) (fun u => LWd κ ra la lb AA Hs hf rr (u.2) fu s1 s2 (w9.1.2.1) (upS (upS hu nu x8.1) (fwN nu) u.1) (fwN (fwN nu)) (mnN (mnN cu)) (x8.2.2.1) (x8.2.2.2) no ot (w9.1.2.2.1) (w9.1.2.2.2) (w9.2) (dr3.2)) pl_k (fun _ => pl_k.symm) rfl (Nat.le_of_ble_eq_true rfl) dL_law_358 ⟨(by show _ ≤ 600086; omega), (by show _ ≤ 7301442; omega)⟩ (fun ch4 hch4 => ?_)
                have hjch4 := hx8j.push hx8g hch4.1
                have gdch4 : Good (330020 + 200 * ku) (12 * ku) (upN (upN σ0 (5 + 6 * 0 + 5) 0) 3 (σ0 3 + σ0 (5 + 6 * 0 + 5))) := hx8g.rem (b := 0) (by omega)
                refine zn_if_ne C 375 dL_law_361 (by decide) (by omega) (fun _ => by exfalso; omega) (fun _ => ?_)
                refine z_aload_n C dL_law_364 2 rfl ?_
                obtain ⟨τun5, hqun5, gqun5⟩ := hjch4.top mnN_1
                refine zh_callS C (aX_ok adK adV) hXc.1.1 (mL_undone_ok l D κ (AA 0) (AA 2) Hs hf ra (AA 1 0) la lb (AA 6 0) (AA 5 0) (ch4.2) (fwN (fwN nu)) (mnN (mnN cu)) (upS (upS hu nu x8.1) (fwN nu) ch4.1) (330020 + 200 * ku) τun5 hhf hjch4.1 hjch4.2.1 mnN_1 hqun5 gqun5.1 adK adV) gL_law_L_undone rfl rfl rfl hdL_undone ⟨(Nat.le_of_ble_eq_true rfl), (Nat.le_of_ble_eq_true rfl)⟩ (SW κ (AA 1) fu ++ (RAW κ rr (dr3.2) ++ ZW κ la lb AA s1 s2 (w9.1.2.1) (x8.2.2.1) (x8.2.2.2) no ot (w9.1.2.2.1) (w9.1.2.2.2) (w9.2))) (fun u => LWd κ ra la lb AA Hs hf rr u fu s1 s2 (w9.1.2.1) (upS (upS hu nu x8.1) (fwN nu) ch4.1) (bkN (fwN (fwN nu))) (mnN (mnN cu) - 1) (x8.2.2.1) (x8.2.2.2) no ot (w9.1.2.2.1) (w9.1.2.2.2) (w9.2) (dr3.2)) pl_k (fun _ => pl_k.symm) rfl (Nat.le_of_ble_eq_true rfl) dL_law_365 ⟨(by show _ ≤ 600086; omega), (by show _ ≤ 7301442; omega)⟩ (fun un5 hun5 => ?_)
                have hjun5 := hjch4.pop mnN_1
                have hcbun5 := hjch4.2.1
                refine zn_if_lt C 375 dL_law_368 (by decide) (by omega) ?_
                refine z_iconst (v := nI 1) C dL_law_371 (by decide) ?_
                refine z_goto (tgt := 376) C dL_law_372 (by decide) ?_
                refine z_istore_n C [(3, .int (nI 1)), (0, .ref (sc)), (1, .ref (ra)), (2, .ref (rr)), (4, .int (nI kq)), (5, .int (nI b)), (6, .long (smV σ0)), (8, .int (nI ku))] dL_law_376 (by decide) rfl ?_
                refine zn_iinc (n := 1) C [(4, .int (nI (kq + 1))), (3, .int (nI 1)), (0, .ref (sc)), (1, .ref (ra)), (2, .ref (rr)), (5, .int (nI b)), (6, .long (smV σ0)), (8, .int (nI ku))] dL_law_377 4 rfl (by decide) rfl ?_
                refine z_goto (tgt := 34) C dL_law_380 (by decide) ?_
                refine z_lv [2, 3, 4, 1, 0] rfl ?_
                exact z_wid (by show _ ≤ 210 + 400 * (kq + 1); omega) (by show _ ≤ 3100 + 80000 * (kq + 1); omega) (ih34 (kq + 1, un5, fu, s1, s2, w9.1.2.1, upS (upS hu nu x8.1) (fwN nu) ch4.1, bkN (fwN (fwN nu)), mnN (mnN cu) - 1, x8.2.2.1, x8.2.2.2, w9.1.2.2.1, w9.1.2.2.2, w9.2, dr3.2) (⟨by omega, hv9, hjun5.1⟩) (by show 2 - (kq + 1) < 2 - kq; omega))
            rcases (show kq = 0 ∨ kq = 1 by omega) with rfl | rfl
            · obtain rfl : e3 = 1 := hfs
              refine z_callV C (mX5_restore_ok l D κ (AA 0) (AA 2) Hs hf ra (AA 1 0) la lb (AA 6 0) (AA 5 0) gu nu cu hu σ (330020 + 200 * ku) (AA 3) s1 σ0 0 hr hg.1 hhf hj.1 hj.2.1 hrs (hg0.1.mono (by omega) (by omega)) (by decide)) gL_law_X5_restore rfl rfl rfl hdX5_restore ⟨(Nat.le_of_ble_eq_true rfl), (Nat.le_of_ble_eq_true rfl)⟩ 13 rfl rfl (SW κ (AA 1) fu ++ (RAW κ rr (dr3.2) ++ (SW κ (AA 4) s2 ++ (SO lb (AA 4 0) e4 ++ (OW κ (AA 5) no ot ++ (SW κ (AA 7) (w9.1.2.1) ++ PW κ (AA 6) (AA 7) (w9.1.2.2.1) (w9.1.2.2.2) (w9.2))))))) (fun u => LWd κ ra la lb AA Hs hf rr (u.2) fu s1 s2 (w9.1.2.1) (upS hu nu u.1) (fwN nu) (mnN cu) 1 e4 no ot (w9.1.2.2.1) (w9.1.2.2.2) (w9.2) (dr3.2)) pl_ra (fun _ => pl_ra.symm) rfl (Nat.le_of_ble_eq_true rfl) dL_law_317 ⟨(by show _ ≤ 600086; omega), (by show _ ≤ 7301442; omega)⟩ (fun rs4 hrs4 => ?_)
              refine z_lv [0, 1, 2, 3, 4, 5, 6, 7] rfl ?_
              exact cut320 (rs4.1, rs4.2, 1, e4) hrs4
            · obtain rfl : e4 = 1 := hfs
              refine z_callV C (mX5_restore_ok l D κ (AA 0) (AA 2) Hs hf ra (AA 1 0) la lb (AA 6 0) (AA 5 0) gu nu cu hu σ (330020 + 200 * ku) (AA 4) s2 σ0 1 hr hg.1 hhf hj.1 hj.2.1 hrs (hg0.1.mono (by omega) (by omega)) (by decide)) gL_law_X5_restore rfl rfl rfl hdX5_restore ⟨(Nat.le_of_ble_eq_true rfl), (Nat.le_of_ble_eq_true rfl)⟩ 13 rfl rfl (SW κ (AA 1) fu ++ (RAW κ rr (dr3.2) ++ (SW κ (AA 3) s1 ++ (SO la (AA 3 0) e3 ++ (OW κ (AA 5) no ot ++ (SW κ (AA 7) (w9.1.2.1) ++ PW κ (AA 6) (AA 7) (w9.1.2.2.1) (w9.1.2.2.2) (w9.2))))))) (fun u => LWd κ ra la lb AA Hs hf rr (u.2) fu s1 s2 (w9.1.2.1) (upS hu nu u.1) (fwN nu) (mnN cu) e3 1 no ot (w9.1.2.2.1) (w9.1.2.2.2) (w9.2) (dr3.2)) pl_rb (fun _ => pl_rb.symm) rfl (Nat.le_of_ble_eq_true rfl) dL_law_317 ⟨(by show _ ≤ 600086; omega), (by show _ ≤ 7301442; omega)⟩ (fun rs4 hrs4 => ?_)
              refine z_lv [0, 1, 2, 3, 4, 5, 6, 7] rfl ?_
              exact cut320 (rs4.1, rs4.2, e3, 1) hrs4
        · refine z_iload_n C dL_law_135 3 rfl ?_
          refine zn_if_eq C 301 dL_law_136 (by decide) (by omega) (fun _ => by exfalso; omega) (fun _ => ?_)
          refine z_aload_n C dL_law_139 1 rfl ?_
          refine z_callS C (mL_sum l D κ (AA 0) gu ra (AA 1 0) (AA 2 0) la lb (AA 6 0) (AA 5 0) σ (330020 + 200 * ku) hr hg.1) gL_law_L_sum rfl rfl rfl hdL_sum ⟨(Nat.le_of_ble_eq_true rfl), (Nat.le_of_ble_eq_true rfl)⟩ (SW κ (AA 1) fu ++ ((HO κ (AA 2) hf nu cu ++ hW κ Hs hu 10) ++ (RAW κ rr ru ++ ZW κ la lb AA s1 s2 (w9.1.2.1) e3 e4 no ot (w9.1.2.2.1) (w9.1.2.2.2) (w9.2)))) (fun _ => LWd κ ra la lb AA Hs hf rr gu fu s1 s2 (w9.1.2.1) hu nu cu e3 e4 no ot (w9.1.2.2.1) (w9.1.2.2.2) (w9.2) ru) pl_r (fun _ => pl_r.symm) rfl (Nat.le_of_ble_eq_true rfl) dL_law_140 ⟨(by show _ ≤ 600086; omega), (by show _ ≤ 7301442; omega)⟩ (fun _ _ => ?_)
          refine z_lstore C [(9, .long (smV σ)), (0, .ref (sc)), (1, .ref (ra)), (2, .ref (rr)), (3, .int (nI 1)), (4, .int (nI kq)), (5, .int (nI b)), (6, .long (smV σ0)), (8, .int (nI ku))] dL_law_143 (by decide) rfl ?_
          refine z_aload_n C dL_law_145 2 rfl ?_
          refine z_bipush (v := nI 100) C dL_law_146 (by decide) ?_
          refine zh_callS C (aX_ok adK adV) hXc.1.1 (mL_advanced_no l D κ adK adV (AA 0) gu ra (AA 1 0) (AA 2 0) la lb (AA 6 0) (AA 5 0) σ (330020 + 200 * ku) (nI 100) hls hr hg.1 (by decide)) gL_law_L_advanced rfl rfl rfl hdL_advanced ⟨(Nat.le_of_ble_eq_true rfl), (Nat.le_of_ble_eq_true rfl)⟩ (SW κ (AA 1) fu ++ ((HO κ (AA 2) hf nu cu ++ hW κ Hs hu 10) ++ (RAW κ rr ru ++ ZW κ la lb AA s1 s2 (w9.1.2.1) e3 e4 no ot (w9.1.2.2.1) (w9.1.2.2.2) (w9.2)))) (fun _ => LWd κ ra la lb AA Hs hf rr gu fu s1 s2 (w9.1.2.1) hu nu cu e3 e4 no ot (w9.1.2.2.1) (w9.1.2.2.2) (w9.2) ru) pl_r (fun _ => pl_r.symm) rfl (Nat.le_of_ble_eq_true rfl) dL_law_148 ⟨(by show _ ≤ 600086; omega), (by show _ ≤ 7301442; omega)⟩ (fun _ _ => ?_)
          refine z_bipush (v := (-2)) C dL_law_151 (by decide) ?_
          refine z_icmp_ne C 235 dL_law_153 (by decide) (fun q => absurd rfl q) (fun _ => ?_)
          refine z_aload_n C dL_law_156 2 rfl ?_
          refine z_bipush (v := nI 10) C dL_law_157 (by decide) ?_
          refine zh_callS C (aX_ok adK adV) hXc.1.1 (mL_pulled_no l D κ adK adV (AA 0) gu ra (AA 1 0) (AA 2 0) la lb (AA 6 0) (AA 5 0) σ (330020 + 200 * ku) (nI 10) hls hr hg.1 (isB_out (by have := hg.n1; omega) (by decide) (by have := hg.n1; omega))) gL_law_L_pulled rfl rfl rfl hdL_pulled ⟨(Nat.le_of_ble_eq_true rfl), (Nat.le_of_ble_eq_true rfl)⟩ (SW κ (AA 1) fu ++ ((HO κ (AA 2) hf nu cu ++ hW κ Hs hu 10) ++ (RAW κ rr ru ++ ZW κ la lb AA s1 s2 (w9.1.2.1) e3 e4 no ot (w9.1.2.2.1) (w9.1.2.2.2) (w9.2)))) (fun _ => LWd κ ra la lb AA Hs hf rr gu fu s1 s2 (w9.1.2.1) hu nu cu e3 e4 no ot (w9.1.2.2.1) (w9.1.2.2.2) (w9.2) ru) pl_r (fun _ => pl_r.symm) rfl (Nat.le_of_ble_eq_true rfl) dL_law_159 ⟨(by show _ ≤ 600086; omega), (by show _ ≤ 7301442; omega)⟩ (fun _ _ => ?_)
          refine z_bipush (v := (-5)) C dL_law_162 (by decide) ?_
          refine z_icmp_ne C 235 dL_law_164 (by decide) (fun q => absurd rfl q) (fun _ => ?_)
          refine z_aload_n C dL_law_167 2 rfl ?_
          refine z_iconst (v := (-1)) C dL_law_168 (by decide) ?_
          refine zh_callS C (aX_ok adK adV) hXc.1.1 (mL_stopped_no l D κ adK adV (AA 0) gu ra (AA 1 0) (AA 2 0) la lb (AA 6 0) (AA 5 0) σ (330020 + 200 * ku) (((-1 : Int32))) hls hr hg.1 (isB_m1 (by have := hg.n1; omega))) gL_law_L_stopped rfl rfl rfl hdL_stopped ⟨(Nat.le_of_ble_eq_true rfl), (Nat.le_of_ble_eq_true rfl)⟩ (SW κ (AA 1) fu ++ ((HO κ (AA 2) hf nu cu ++ hW κ Hs hu 10) ++ (RAW κ rr ru ++ ZW κ la lb AA s1 s2 (w9.1.2.1) e3 e4 no ot (w9.1.2.2.1) (w9.1.2.2.2) (w9.2)))) (fun _ => LWd κ ra la lb AA Hs hf rr gu fu s1 s2 (w9.1.2.1) hu nu cu e3 e4 no ot (w9.1.2.2.1) (w9.1.2.2.2) (w9.2) ru) pl_r (fun _ => pl_r.symm) rfl (Nat.le_of_ble_eq_true rfl) dL_law_169 ⟨(by show _ ≤ 600086; omega), (by show _ ≤ 7301442; omega)⟩ (fun _ _ => ?_)
          refine z_bipush (v := (-5)) C dL_law_172 (by decide) ?_
          refine z_icmp_ne C 235 dL_law_174 (by decide) (fun q => absurd rfl q) (fun _ => ?_)
          refine z_aload_n C dL_law_177 2 rfl ?_
          refine z_bipush (v := nI 10) C dL_law_178 (by decide) ?_
          refine zh_callS C (aX_ok adK adV) hXc.1.1 (mL_repaired_no l D κ adK adV (AA 0) gu ra (AA 1 0) (AA 2 0) la lb (AA 6 0) (AA 5 0) σ (330020 + 200 * ku) (nI 10) hls hr hg.1 (isB_out (by have := hg.n1; omega) (by decide) (by have := hg.n1; omega))) gL_law_L_repaired rfl rfl rfl hdL_repaired ⟨(Nat.le_of_ble_eq_true rfl), (Nat.le_of_ble_eq_true rfl)⟩ (SW κ (AA 1) fu ++ ((HO κ (AA 2) hf nu cu ++ hW κ Hs hu 10) ++ (RAW κ rr ru ++ ZW κ la lb AA s1 s2 (w9.1.2.1) e3 e4 no ot (w9.1.2.2.1) (w9.1.2.2.2) (w9.2)))) (fun _ => LWd κ ra la lb AA Hs hf rr gu fu s1 s2 (w9.1.2.1) hu nu cu e3 e4 no ot (w9.1.2.2.1) (w9.1.2.2.2) (w9.2) ru) pl_r (fun _ => pl_r.symm) rfl (Nat.le_of_ble_eq_true rfl) dL_law_180 ⟨(by show _ ≤ 600086; omega), (by show _ ≤ 7301442; omega)⟩ (fun _ _ => ?_)
          refine z_bipush (v := (-5)) C dL_law_183 (by decide) ?_
          refine z_icmp_ne C 235 dL_law_185 (by decide) (fun q => absurd rfl q) (fun _ => ?_)
          refine z_aload_n C dL_law_188 2 rfl ?_
          refine z_bipush (v := nI 10) C dL_law_189 (by decide) ?_
          refine zh_callS C (aX_ok adK adV) hXc.1.1 (mL_removed_no l D κ adK adV (AA 0) gu ra (AA 1 0) (AA 2 0) la lb (AA 6 0) (AA 5 0) σ (330020 + 200 * ku) (nI 10) hls hr hg.1 (isB_out (by have := hg.n1; omega) (by decide) (by have := hg.n1; omega))) gL_law_L_removed rfl rfl rfl hdL_removed ⟨(Nat.le_of_ble_eq_true rfl), (Nat.le_of_ble_eq_true rfl)⟩ (SW κ (AA 1) fu ++ ((HO κ (AA 2) hf nu cu ++ hW κ Hs hu 10) ++ (RAW κ rr ru ++ ZW κ la lb AA s1 s2 (w9.1.2.1) e3 e4 no ot (w9.1.2.2.1) (w9.1.2.2.2) (w9.2)))) (fun _ => LWd κ ra la lb AA Hs hf rr gu fu s1 s2 (w9.1.2.1) hu nu cu e3 e4 no ot (w9.1.2.2.1) (w9.1.2.2.2) (w9.2) ru) pl_r (fun _ => pl_r.symm) rfl (Nat.le_of_ble_eq_true rfl) dL_law_191 ⟨(by show _ ≤ 600086; omega), (by show _ ≤ 7301442; omega)⟩ (fun _ _ => ?_)
          refine z_bipush (v := (-5)) C dL_law_194 (by decide) ?_
          refine z_icmp_ne C 235 dL_law_196 (by decide) (fun q => absurd rfl q) (fun _ => ?_)
          refine z_aload_n C dL_law_199 2 rfl ?_
          refine z_iconst (v := nI 5) C dL_law_200 (by decide) ?_
          refine z_iconst (v := nI 1) C dL_law_201 (by decide) ?_
          refine zh_callS C (aX_ok adK adV) hXc.1.1 (mL_added_no l D κ adK adV (AA 0) gu ra (AA 1 0) (AA 2 0) la lb (AA 6 0) (AA 5 0) σ (330020 + 200 * ku) (nI 5) (nI 1) hls hr hg.1 (isB_out (by have := hg.n2; omega) (by decide) (by have := hg.n2; omega))) gL_law_L_added rfl rfl rfl hdL_added ⟨(Nat.le_of_ble_eq_true rfl), (Nat.le_of_ble_eq_true rfl)⟩ (SW κ (AA 1) fu ++ ((HO κ (AA 2) hf nu cu ++ hW κ Hs hu 10) ++ (RAW κ rr ru ++ ZW κ la lb AA s1 s2 (w9.1.2.1) e3 e4 no ot (w9.1.2.2.1) (w9.1.2.2.2) (w9.2)))) (fun _ => LWd κ ra la lb AA Hs hf rr gu fu s1 s2 (w9.1.2.1) hu nu cu e3 e4 no ot (w9.1.2.2.1) (w9.1.2.2.2) (w9.2) ru) pl_r (fun _ => pl_r.symm) rfl (Nat.le_of_ble_eq_true rfl) dL_law_202 ⟨(by show _ ≤ 600086; omega), (by show _ ≤ 7301442; omega)⟩ (fun _ _ => ?_)
          refine z_bipush (v := (-5)) C dL_law_205 (by decide) ?_
          refine z_icmp_ne C 235 dL_law_207 (by decide) (fun q => absurd rfl q) (fun _ => ?_)
          refine z_aload_n C dL_law_210 2 rfl ?_
          refine z_iconst (v := nI 5) C dL_law_211 (by decide) ?_
          refine z_iconst (v := nI 1) C dL_law_212 (by decide) ?_
          refine zh_callS C (aX_ok adK adV) hXc.1.1 (mL_timed_no l D κ adK adV (AA 0) gu ra (AA 1 0) (AA 2 0) la lb (AA 6 0) (AA 5 0) σ (330020 + 200 * ku) (nI 5) (nI 1) hls hr hg.1 (isB_out (by have := hg.n2; omega) (by decide) (by have := hg.n2; omega))) gL_law_L_timed rfl rfl rfl hdL_timed ⟨(Nat.le_of_ble_eq_true rfl), (Nat.le_of_ble_eq_true rfl)⟩ (SW κ (AA 1) fu ++ ((HO κ (AA 2) hf nu cu ++ hW κ Hs hu 10) ++ (RAW κ rr ru ++ ZW κ la lb AA s1 s2 (w9.1.2.1) e3 e4 no ot (w9.1.2.2.1) (w9.1.2.2.2) (w9.2)))) (fun _ => LWd κ ra la lb AA Hs hf rr gu fu s1 s2 (w9.1.2.1) hu nu cu e3 e4 no ot (w9.1.2.2.1) (w9.1.2.2.2) (w9.2) ru) pl_r (fun _ => pl_r.symm) rfl (Nat.le_of_ble_eq_true rfl) dL_law_213 ⟨(by show _ ≤ 600086; omega), (by show _ ≤ 7301442; omega)⟩ (fun _ _ => ?_)
          refine z_bipush (v := (-5)) C dL_law_216 (by decide) ?_
          refine z_icmp_ne C 235 dL_law_218 (by decide) (fun q => absurd rfl q) (fun _ => ?_)
          refine z_aload_n C dL_law_221 2 rfl ?_
          refine z_callS C (mL_sum l D κ (AA 0) gu ra (AA 1 0) (AA 2 0) la lb (AA 6 0) (AA 5 0) σ (330020 + 200 * ku) hr hg.1) gL_law_L_sum rfl rfl rfl hdL_sum ⟨(Nat.le_of_ble_eq_true rfl), (Nat.le_of_ble_eq_true rfl)⟩ (SW κ (AA 1) fu ++ ((HO κ (AA 2) hf nu cu ++ hW κ Hs hu 10) ++ (RAW κ rr ru ++ ZW κ la lb AA s1 s2 (w9.1.2.1) e3 e4 no ot (w9.1.2.2.1) (w9.1.2.2.2) (w9.2)))) (fun _ => LWd κ ra la lb AA Hs hf rr gu fu s1 s2 (w9.1.2.1) hu nu cu e3 e4 no ot (w9.1.2.2.1) (w9.1.2.2.2) (w9.2) ru) pl_r (fun _ => pl_r.symm) rfl (Nat.le_of_ble_eq_true rfl) dL_law_222 ⟨(by show _ ≤ 600086; omega), (by show _ ≤ 7301442; omega)⟩ (fun _ _ => ?_)
          refine z_lload C dL_law_225 0 rfl ?_
          refine z_lcmp C dL_law_227 ?_
          refine z_if_ne C 235 dL_law_228 (by decide) (fun q => absurd (lcs _) q) (fun _ => ?_)
          refine z_iconst (v := nI 1) C dL_law_231 (by decide) ?_
          refine z_goto (tgt := 236) C dL_law_232 (by decide) ?_
          refine z_istore_n C [(3, .int (nI 1)), (9, .long (smV σ)), (0, .ref (sc)), (1, .ref (ra)), (2, .ref (rr)), (4, .int (nI kq)), (5, .int (nI b)), (6, .long (smV σ0)), (8, .int (nI ku))] dL_law_236 (by decide) rfl ?_
          refine z_iload_n C dL_law_237 0 rfl ?_
          refine zn_if_eq C 267 dL_law_238 (by decide) (by omega) (fun _ => by exfalso; omega) (fun _ => ?_)
          refine z_aload_n C dL_law_241 3 rfl ?_
          refine z_aload_n C dL_law_242 4 rfl ?_
          refine z_callSc C (aX_ok adK adV) hXc.1.1 (mL_act l D κ adK adV (AA 1) (AA 0) (AA 2) Hs hf ra la lb (AA 6 0) (AA 5 0) rr fu gu nu cu hu ru σ (330020 + 200 * ku) (12 * ku) hls hr hg hj hhf (by omega) (by omega)) gL_law_L_act rfl rfl rfl hdL_act ⟨(Nat.le_of_ble_eq_true rfl), (Nat.le_of_ble_eq_true rfl)⟩ (ZW κ la lb AA s1 s2 (w9.1.2.1) e3 e4 no ot (w9.1.2.2.1) (w9.1.2.2.2) (w9.2)) (fun u => LWd κ ra la lb AA Hs hf rr (u.1) (u.2.2.2.2.1) s1 s2 (w9.1.2.1) (u.2.2.2.1) (u.2.1) (u.2.2.1) e3 e4 no ot (w9.1.2.2.1) (w9.1.2.2.2) (w9.2) (u.2.2.2.2.2)) pl_a (fun _ => pl_a.symm) rfl (Nat.le_of_ble_eq_true rfl) dL_law_243 ⟨(by show _ ≤ 600086; omega), (by show _ ≤ 7301442; omega)⟩ (fun ac3 hac3 => ?_)
          obtain ⟨hca, hja, σa, hra, hga⟩ := hac3
          refine zn_if_eq C 267 dL_law_246 (by decide) (by omega) (fun _ => by exfalso; omega) (fun _ => ?_)
          refine z_aload_n C dL_law_249 3 rfl ?_
          refine z_callS C (mL_blocks l D κ (AA 0) (ac3.1) ra (AA 1 0) (AA 2 0) la lb (AA 6 0) (AA 5 0) σa ((330020 + 200 * ku) + 200) hra hga.1 hga.2.1) gL_law_L_blocks rfl rfl rfl hdL_blocks ⟨(Nat.le_of_ble_eq_true rfl), (Nat.le_of_ble_eq_true rfl)⟩ (SW κ (AA 1) (ac3.2.2.2.2.1) ++ ((HO κ (AA 2) hf (ac3.2.1) (ac3.2.2.1) ++ hW κ Hs (ac3.2.2.2.1) 10) ++ (RAW κ rr (ac3.2.2.2.2.2) ++ ZW κ la lb AA s1 s2 (w9.1.2.1) e3 e4 no ot (w9.1.2.2.1) (w9.1.2.2.2) (w9.2)))) (fun _ => LWd κ ra la lb AA Hs hf rr (ac3.1) (ac3.2.2.2.2.1) s1 s2 (w9.1.2.1) (ac3.2.2.2.1) (ac3.2.1) (ac3.2.2.1) e3 e4 no ot (w9.1.2.2.1) (w9.1.2.2.2) (w9.2) (ac3.2.2.2.2.2)) pl_r (fun _ => pl_r.symm) rfl (Nat.le_of_ble_eq_true rfl) dL_law_250 ⟨(by show _ ≤ 600086; omega), (by show _ ≤ 7301442; omega)⟩ (fun _ _ => ?_)
          refine zn_if_eq C 267 dL_law_253 (by decide) (by omega) (fun _ => by exfalso; omega) (fun _ => ?_)
          refine z_aload_n C dL_law_256 3 rfl ?_
          have hTtf4 := hga.2.2.1
          refine z_callS C (mL_trains l D κ (AA 1) (AA 0) (ac3.2.2.2.2.1) (ac3.1) ra (AA 2 0) la lb (AA 6 0) (AA 5 0) σa ((330020 + 200 * ku) + 200) hra hga.1 (by omega) (by omega)) gL_law_L_trains rfl rfl rfl hdL_trains ⟨(Nat.le_of_ble_eq_true rfl), (Nat.le_of_ble_eq_true rfl)⟩ ((HO κ (AA 2) hf (ac3.2.1) (ac3.2.2.1) ++ hW κ Hs (ac3.2.2.2.1) 10) ++ (RAW κ rr (ac3.2.2.2.2.2) ++ ZW κ la lb AA s1 s2 (w9.1.2.1) e3 e4 no ot (w9.1.2.2.1) (w9.1.2.2.2) (w9.2))) (fun u => LWd κ ra la lb AA Hs hf rr (ac3.1) u s1 s2 (w9.1.2.1) (ac3.2.2.2.1) (ac3.2.1) (ac3.2.2.1) e3 e4 no ot (w9.1.2.2.1) (w9.1.2.2.2) (w9.2) (ac3.2.2.2.2.2)) pl_t (fun _ => pl_t.symm) rfl (Nat.le_of_ble_eq_true rfl) dL_law_257 ⟨(by show _ ≤ 600086; omega), (by show _ ≤ 7301442; omega)⟩ (fun tf4 _ => ?_)
          refine zn_if_eq C 267 dL_law_260 (by decide) (by omega) (fun _ => by exfalso; omega) (fun _ => ?_)
          refine z_iconst (v := nI 1) C dL_law_263 (by decide) ?_
          refine z_goto (tgt := 268) C dL_law_264 (by decide) ?_
          refine z_istore_n C [(3, .int (nI 1)), (9, .long (smV σ)), (0, .ref (sc)), (1, .ref (ra)), (2, .ref (rr)), (4, .int (nI kq)), (5, .int (nI b)), (6, .long (smV σ0)), (8, .int (nI ku))] dL_law_268 (by decide) rfl ?_
          refine z_iload_n C dL_law_269 0 rfl ?_
          refine zn_if_eq C 295 dL_law_270 (by decide) (by omega) (fun _ => by exfalso; omega) (fun _ => ?_)
          refine z_aload_n C dL_law_273 4 rfl ?_
          refine z_callS C (mL_next l D κ rr (ac3.2.2.2.2.2)) gL_law_L_next rfl rfl rfl hdL_next ⟨(Nat.le_of_ble_eq_true rfl), (Nat.le_of_ble_eq_true rfl)⟩ (SW κ (AA 1) tf4 ++ (kW κ (AA 0) (AA 2) Hs hf ra (AA 1 0) la lb (AA 6 0) (AA 5 0) (ac3.1) (ac3.2.1) (ac3.2.2.1) (ac3.2.2.2.1) ++ ZW κ la lb AA s1 s2 (w9.1.2.1) e3 e4 no ot (w9.1.2.2.1) (w9.1.2.2.2) (w9.2))) (fun u => LWd κ ra la lb AA Hs hf rr (ac3.1) tf4 s1 s2 (w9.1.2.1) (ac3.2.2.2.1) (ac3.2.1) (ac3.2.2.1) e3 e4 no ot (w9.1.2.2.1) (w9.1.2.2.2) (w9.2) (u.2)) pl_n (fun _ => pl_n.symm) rfl (Nat.le_of_ble_eq_true rfl) dL_law_274 ⟨(by show _ ≤ 600086; omega), (by show _ ≤ 7301442; omega)⟩ (fun dr5 hdr5 => ?_)
          refine z_iconst (v := nI 5) C dL_law_277 (by decide) ?_
          refine zn_irem C dL_law_278 (by omega) (by omega) (by omega) ?_
          refine zn_if_ne C 295 dL_law_279 (by decide) (by omega) (fun h7 => ?_) (fun h8 => ?_)
          · refine zn_iinc (n := 1) C [(8, .int (nI (ku + 1))), (3, .int (nI 1)), (9, .long (smV σ)), (0, .ref (sc)), (1, .ref (ra)), (2, .ref (rr)), (4, .int (nI kq)), (5, .int (nI b)), (6, .long (smV σ0))] dL_law_295 8 rfl (by decide) rfl ?_
            refine z_goto (tgt := 128) C dL_law_298 (by decide) ?_
            refine z_lv [3, 4, 5, 1, 6, 7, 8, 0] rfl ?_
            exact z_wid (by show _ ≤ 320 + 400 * kq + 11 * (ku + 1); omega) (by show _ ≤ 73200 + 80000 * kq + 66 * (ku + 1); omega) (ih128 (ku + 1, ac3.1, tf4, ac3.2.2.2.1, ac3.2.1, ac3.2.2.1, dr5.2, σa) (⟨by omega, hra, hga.mo (by omega) (by omega) (by omega), hja.mo (by omega) (by omega) (by omega)⟩) (by show 16 - (ku + 1) < 16 - ku; omega))
          · refine z_aload_n C dL_law_282 3 rfl ?_
            obtain ⟨τun6, hqun6, gqun6⟩ := hja.top hca
            refine zh_callS C (aX_ok adK adV) hXc.1.1 (mL_undone_ok l D κ (AA 0) (AA 2) Hs hf ra (AA 1 0) la lb (AA 6 0) (AA 5 0) (ac3.1) (ac3.2.1) (ac3.2.2.1) (ac3.2.2.2.1) ((330020 + 200 * ku) + 200) τun6 hhf hja.1 hja.2.1 hca hqun6 gqun6.1 adK adV) gL_law_L_undone rfl rfl rfl hdL_undone ⟨(Nat.le_of_ble_eq_true rfl), (Nat.le_of_ble_eq_true rfl)⟩ (SW κ (AA 1) tf4 ++ (RAW κ rr (dr5.2) ++ ZW κ la lb AA s1 s2 (w9.1.2.1) e3 e4 no ot (w9.1.2.2.1) (w9.1.2.2.2) (w9.2))) (fun u => LWd κ ra la lb AA Hs hf rr u tf4 s1 s2 (w9.1.2.1) (ac3.2.2.2.1) (bkN (ac3.2.1)) (ac3.2.2.1 - 1) e3 e4 no ot (w9.1.2.2.1) (w9.1.2.2.2) (w9.2) (dr5.2)) pl_k (fun _ => pl_k.symm) rfl (Nat.le_of_ble_eq_true rfl) dL_law_283 ⟨(by show _ ≤ 600086; omega), (by show _ ≤ 7301442; omega)⟩ (fun un6 hun6 => ?_)
            have hjun6 := hja.pop hca
            have hcbun6 := hja.2.1
            refine zn_if_lt C 293 dL_law_286 (by decide) (by omega) ?_
            refine z_iconst (v := nI 1) C dL_law_289 (by decide) ?_
            refine z_goto (tgt := 294) C dL_law_290 (by decide) ?_
            refine z_istore_n C [(3, .int (nI 1)), (9, .long (smV σ)), (0, .ref (sc)), (1, .ref (ra)), (2, .ref (rr)), (4, .int (nI kq)), (5, .int (nI b)), (6, .long (smV σ0)), (8, .int (nI ku))] dL_law_294 (by decide) rfl ?_
            refine zn_iinc (n := 1) C [(8, .int (nI (ku + 1))), (3, .int (nI 1)), (9, .long (smV σ)), (0, .ref (sc)), (1, .ref (ra)), (2, .ref (rr)), (4, .int (nI kq)), (5, .int (nI b)), (6, .long (smV σ0))] dL_law_295 8 rfl (by decide) rfl ?_
            refine z_goto (tgt := 128) C dL_law_298 (by decide) ?_
            refine z_lv [3, 4, 5, 1, 6, 7, 8, 0] rfl ?_
            exact z_wid (by show _ ≤ 320 + 400 * kq + 11 * (ku + 1); omega) (by show _ ≤ 73200 + 80000 * kq + 66 * (ku + 1); omega) (ih128 (ku + 1, un6, tf4, ac3.2.2.2.1, bkN (ac3.2.1), ac3.2.2.1 - 1, dr5.2, τun6) (⟨by omega, hun6, gqun6.mo (by omega) (by omega) (by omega), hjun6.mo (by omega) (by omega) (by omega)⟩) (by show 16 - (ku + 1) < 16 - ku; omega))
      rcases (show kq = 0 ∨ kq = 1 by omega) with rfl | rfl
      · refine z_callV C (mX5_save_ok l D κ (AA 0) (w9.1.1) ra (AA 1 0) (AA 2 0) la lb (AA 6 0) (AA 5 0) σ0 330020 (AA 3) g1 0 0 hr0 hg0.1 (by decide)) gL_law_X5_save rfl rfl rfl hdX5_save ⟨(Nat.le_of_ble_eq_true rfl), (Nat.le_of_ble_eq_true rfl)⟩ 13 rfl rfl (SW κ (AA 1) f ++ ((HO κ (AA 2) hf nx 0 ++ hW κ Hs gh 10) ++ (RAW κ rr (st.2.2.2.2) ++ (SW κ (AA 4) g2 ++ (SO lb (AA 4 0) 0 ++ (OW κ (AA 5) no ot ++ (SW κ (AA 7) (w9.1.2.1) ++ PW κ (AA 6) (AA 7) (w9.1.2.2.1) (w9.1.2.2.2) (w9.2)))))))) (fun u => LWd κ ra la lb AA Hs hf rr (w9.1.1) f u g2 (w9.1.2.1) gh nx 0 1 0 no ot (w9.1.2.2.1) (w9.1.2.2.2) (w9.2) (st.2.2.2.2)) pl_sa (fun _ => pl_sa.symm) rfl (Nat.le_of_ble_eq_true rfl) dL_law_107 ⟨(by show _ ≤ 600086; omega), (by show _ ≤ 7301442; omega)⟩ (fun sv hsv => ?_)
        refine z_lv [0, 1, 2, 3, 4, 5] rfl ?_
        exact cut110 (sv, g2, 1, 0) ⟨hsv, rfl⟩
      · refine z_callV C (mX5_save_ok l D κ (AA 0) (w9.1.1) ra (AA 1 0) (AA 2 0) la lb (AA 6 0) (AA 5 0) σ0 330020 (AA 4) g2 0 1 hr0 hg0.1 (by decide)) gL_law_X5_save rfl rfl rfl hdX5_save ⟨(Nat.le_of_ble_eq_true rfl), (Nat.le_of_ble_eq_true rfl)⟩ 13 rfl rfl (SW κ (AA 1) f ++ ((HO κ (AA 2) hf nx 0 ++ hW κ Hs gh 10) ++ (RAW κ rr (st.2.2.2.2) ++ (SW κ (AA 3) g1 ++ (SO la (AA 3 0) 0 ++ (OW κ (AA 5) no ot ++ (SW κ (AA 7) (w9.1.2.1) ++ PW κ (AA 6) (AA 7) (w9.1.2.2.1) (w9.1.2.2.2) (w9.2)))))))) (fun u => LWd κ ra la lb AA Hs hf rr (w9.1.1) f g1 u (w9.1.2.1) gh nx 0 0 1 no ot (w9.1.2.2.1) (w9.1.2.2.2) (w9.2) (st.2.2.2.2)) pl_sb (fun _ => pl_sb.symm) rfl (Nat.le_of_ble_eq_true rfl) dL_law_107 ⟨(by show _ ≤ 600086; omega), (by show _ ≤ 7301442; omega)⟩ (fun sv hsv => ?_)
        refine z_lv [0, 1, 2, 3, 4, 5] rfl ?_
        exact cut110 (g1, sv, 0, 1) ⟨hsv, rfl⟩
    refine zn_icmp_ge C 62 dL_law_52 (by decide) (by omega) (by omega) (fun h9 => ?_) (fun h10 => ?_)
    · refine z_iconst (v := nI 0) C dL_law_62 (by decide) ?_
      refine z_lv [0, 1, 2, 3, 4] rfl ?_
      exact cut63 (nI 0) trivial
    · refine z_aload_n C dL_law_55 0 rfl ?_
      refine z_iload C dL_law_56 4 rfl ?_
      refine z_sld C hX hb0 hA0 (i := kq) (by omega) (by omega) rfl dL_law_58 ?_
      refine z_goto (tgt := 63) C dL_law_59 (by decide) ?_
      refine z_lv [0, 1, 2, 3, 4] rfl ?_
      exact cut63 ((xs kq)) trivial
end LAW
