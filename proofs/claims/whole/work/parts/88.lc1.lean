section LC
variable {p : Program} {l : Launch} {e : Env} {s : State} {m : MethodId} {args : Array Value} {below : List Frame} {meth : Method} {c : Code} {D : va_G} {A : Nat → Prop} {cells slots : Nat} {Q : State → Prop} {sc L : Nat} {xs : Nat → Int32} {κ : Nat → ClassId} {adK adV : Nat → Nat} {ra la lb oa : Nat} {Ad : Nat → Nat} {AA : Nat → Nat → Nat} {Hs : Nat → Nat → Nat} {hf : Nat → Option Nat} {fo : Nat → Int64} {g f g1 g2 gp : Nat → Nat → Nat} {gh : Nat → Nat → Nat → Nat} {nx ct f1 f2 no : Nat} {ot : Nat → Nat} {eo : Int32} {v : Nat → Nat} {tx ip : Nat → Int32} {w σ aw : Nat → Nat} {h s2 : Nat → Nat → Nat} {M i : Nat}
set_option maxRecDepth 100000 in
set_option maxHeartbeats 8000000 in
theorem lc_9_ok (C : zC p s m args c cL_law 9 wsL_law RL D (zTy κ) A) (hXc : aX adK adV A s s.heap) (hls : l.stackTraces = false) (hX : va_X sc L xs s s.heap) (hb0 : sc < s.heap.size) (hA0 : ¬ A sc) (hhf : ∀ j, j < 10 → hf j = some (Hs j 0)) (hi6 : i + 6 ≤ L) (hL : L ≤ 3072) (hcr : cells + 1 ≤ 601024 ∧ slots + 6 ≤ 7293034) (H : LI M g g1 g2 gh nx ct f1 f2 no v tx ip w σ h s2) (hM1 : 700000 ≤ M) (hM : M ≤ 1400000) (K : LGO p l e s m args below meth c D A Q sc κ ra la lb oa Ad AA Hs hf 2685 (M + 1200) i (cells + 1) (slots + 6)) (b : Nat) (hb : b < σ 1) (hx19 : xs (i + 1) = nI b) : zW p l e RML s m args below meth c 9 D A cells slots Q (LAWW κ ra la lb oa Ad AA Hs hf fo g f g1 g2 gp gh nx ct f1 f2 no ot eo v tx ip w σ aw h s2) [(0, .ref (sc)), (1, .ref (ra)), (2, .ref (Ad 0)), (3, .ref (oa)), (4, .int (nI i))] 659 [] := by
  obtain ⟨hr, hv, ht0⟩ := id H.1
  obtain ⟨hnx, hct, h5, -⟩ := id H.2.1
  obtain ⟨q1, q2, h7, -, -⟩ := id H.2.2.1
  obtain ⟨v1, hw9, v2, ht⟩ := id H.2.2.2.1
  obtain ⟨hno, hn64⟩ := id H.2.2.2.2
  have n1 := hv.n1
  have n2 := hv.n2
  refine z_aload_n C dL_law_659 1 rfl ?_
  refine z_aload_n C dL_law_660 0 rfl ?_
  refine z_iload C dL_law_661 4 rfl ?_
  refine z_iconst (v := nI 1) C dL_law_663 (by decide) ?_
  refine zn_iadd C dL_law_664 ?_
  refine z_sld C hX hb0 hA0 (i := i + 1) (by omega) (by omega) hx19 dL_law_665 ?_
  refine z_aload_n C dL_law_666 3 rfl ?_
  refine zh_callS C (aX_ok adK adV) hXc (mL_limitOf_ok l D κ (AA 0) g ra (AA 1 0) (AA 2 0) la lb (AA 6 0) (AA 5 0) σ M b hr hv hb adK adV oa fo) gL_law_L_limitOf rfl rfl rfl hdL_limitOf ⟨(Nat.le_of_ble_eq_true rfl), (Nat.le_of_ble_eq_true rfl)⟩ _ (fun u1 => OUTW κ oa (vp_updL fo 0 (((nI (σ (5 + 6 * b + 2)))).toInt64)) ++ (MW κ Ad eo ip w σ aw (hiF h) (hiF s2) ot ++ (SW κ (AA 0) g ++ (RC ra (AA 0 0) (AA 1 0) (AA 2 0) la lb (AA 6 0) (AA 5 0) ++ (SW κ (AA 1) f ++ (HO κ (AA 2) hf nx ct ++ (hW κ Hs gh 10 ++ (SW κ (AA 3) g1 ++ (SO la (AA 3 0) f1 ++ (SW κ (AA 4) g2 ++ (SO lb (AA 4 0) f2 ++ (OW κ (AA 5) no ot ++ (SW κ (AA 7) gp ++ PW κ (AA 6) (AA 7) eo v tx))))))))))))) pmH_S (fun u1 => pmH_S.symm) rfl (Nat.le_of_ble_eq_true rfl) dL_law_667 ⟨by show _ ≤ 601024; omega, by show _ ≤ 7293034; omega⟩ (fun u1 hu1 => ?_)
  refine z_istore C [(5, .int (nI 0)), (0, .ref (sc)), (1, .ref (ra)), (2, .ref (Ad 0)), (3, .ref (oa)), (4, .int (nI i))] dL_law_670 (by decide) rfl ?_
  refine z_aload_n C dL_law_672 3 rfl ?_
  refine z_aload_n C dL_law_673 1 rfl ?_
  refine z_iload C dL_law_674 5 rfl ?_
  refine z_iconst (v := nI 1) C dL_law_676 (by decide) ?_
  refine zn_iadd C dL_law_677 ?_
  refine z_sld C hX hb0 hA0 (i := i + 1) (by omega) (by omega) hx19 dL_law_678 ?_
  refine z_callV C (mX6_limitOf_ok l D κ Ad eo ip w σ aw (hiF h) (hiF s2) ot M b hv.1 (by first | assumption | omega)) gL_law_X6_limitOf rfl rfl rfl hdX6_limitOf ⟨(Nat.le_of_ble_eq_true rfl), (Nat.le_of_ble_eq_true rfl)⟩ 0 rfl rfl _ (fun u2 => OUTW κ oa (vp_updL fo 0 (((nI (σ (5 + 6 * b + 2)))).toInt64)) ++ (MW κ Ad eo ip (upN w 1 0) σ aw (hiF h) (hiF s2) ot ++ (SW κ (AA 0) g ++ (RC ra (AA 0 0) (AA 1 0) (AA 2 0) la lb (AA 6 0) (AA 5 0) ++ (SW κ (AA 1) f ++ (HO κ (AA 2) hf nx ct ++ (hW κ Hs gh 10 ++ (SW κ (AA 3) g1 ++ (SO la (AA 3 0) f1 ++ (SW κ (AA 4) g2 ++ (SO lb (AA 4 0) f2 ++ (OW κ (AA 5) no ot ++ (SW κ (AA 7) gp ++ PW κ (AA 6) (AA 7) eo v tx))))))))))))) pmM (fun u2 => pmM.symm) rfl (Nat.le_of_ble_eq_true rfl) dL_law_679 ⟨by show _ ≤ 601024; omega, by show _ ≤ 7293034; omega⟩ (fun u2 hu2 => ?_)
  refine z_istore C [(6, .int ((nI (σ (5 + 6 * b + 2))))), (5, .int (nI 0)), (0, .ref (sc)), (1, .ref (ra)), (2, .ref (Ad 0)), (3, .ref (oa)), (4, .int (nI i))] dL_law_682 (by decide) rfl ?_
  refine z_aload_n C dL_law_684 4 rfl ?_
  refine z_callV C (mX6_thrown l D κ Ad eo ip (upN w 1 0) σ aw (hiF h) (hiF s2) ot) gL_law_X6_thrown rfl rfl rfl hdX6_thrown ⟨(Nat.le_of_ble_eq_true rfl), (Nat.le_of_ble_eq_true rfl)⟩ 0 rfl rfl _ (fun _ => OUTW κ oa (vp_updL fo 0 (((nI (σ (5 + 6 * b + 2)))).toInt64)) ++ (MW κ Ad eo ip (upN w 1 0) σ aw (hiF h) (hiF s2) ot ++ (SW κ (AA 0) g ++ (RC ra (AA 0 0) (AA 1 0) (AA 2 0) la lb (AA 6 0) (AA 5 0) ++ (SW κ (AA 1) f ++ (HO κ (AA 2) hf nx ct ++ (hW κ Hs gh 10 ++ (SW κ (AA 3) g1 ++ (SO la (AA 3 0) f1 ++ (SW κ (AA 4) g2 ++ (SO lb (AA 4 0) f2 ++ (OW κ (AA 5) no ot ++ (SW κ (AA 7) gp ++ PW κ (AA 6) (AA 7) eo v tx))))))))))))) pmM (fun _ => pmM.symm) rfl (Nat.le_of_ble_eq_true rfl) dL_law_685 ⟨by show _ ≤ 601024; omega, by show _ ≤ 7293034; omega⟩ (fun _ _ => ?_)
  refine z_iload C dL_law_688 1 rfl ?_
  refine z_icmpE C 695 rfl dL_law_690 (by decide) ?_
  refine z_iload C dL_law_695 1 rfl ?_
  refine z_if_ne C 712 dL_law_697 (by decide) (fun q => absurd (by decide) q) (fun _ => ?_)
  refine z_aload_n C dL_law_700 5 rfl ?_
  refine z_iconst (v := nI 0) C dL_law_701 (by decide) ?_
  refine z_lald C 0 4 rfl rfl (i := 0) (by decide) (by decide) dL_law_702 ?_
  refine z_iload C dL_law_703 0 rfl ?_
  refine z_i2l C dL_law_705 rfl ?_
  refine z_lcmpE C (updL_0) dL_law_706 ?_
  refine z_if_eq C 712 dL_law_707 (by decide) (fun _ => ?_) (fun q => absurd (by decide) q)
  refine z_goto (tgt := 2685) C dL_law_712 (by decide) ?_
  refine z_lv [2, 3, 4, 5, 6] rfl ?_
  exact K (vp_updL fo 0 (((nI (σ (5 + 6 * b + 2)))).toInt64)) g f g1 g2 gp gh nx ct f1 f2 no ot eo v tx ip (upN w 1 0) σ aw h s2 cells slots (by omega) (by omega) ((H.mono (by omega) (by omega)).w1 _)
set_option maxRecDepth 100000 in
set_option maxHeartbeats 8000000 in
theorem lc_9_no (C : zC p s m args c cL_law 9 wsL_law RL D (zTy κ) A) (hXc : aX adK adV A s s.heap) (hls : l.stackTraces = false) (hX : va_X sc L xs s s.heap) (hb0 : sc < s.heap.size) (hA0 : ¬ A sc) (hhf : ∀ j, j < 10 → hf j = some (Hs j 0)) (hi6 : i + 6 ≤ L) (hL : L ≤ 3072) (hcr : cells + 1 ≤ 601024 ∧ slots + 6 ≤ 7293034) (H : LI M g g1 g2 gh nx ct f1 f2 no v tx ip w σ h s2) (hM1 : 700000 ≤ M) (hM : M ≤ 1400000) (K : LGO p l e s m args below meth c D A Q sc κ ra la lb oa Ad AA Hs hf 2685 (M + 1200) i (cells + 1) (slots + 6)) (x : Int32) (hx : isB (σ 1) x = false) (hx19 : xs (i + 1) = x) : zW p l e RML s m args below meth c 9 D A cells slots Q (LAWW κ ra la lb oa Ad AA Hs hf fo g f g1 g2 gp gh nx ct f1 f2 no ot eo v tx ip w σ aw h s2) [(0, .ref (sc)), (1, .ref (ra)), (2, .ref (Ad 0)), (3, .ref (oa)), (4, .int (nI i))] 659 [] := by
  obtain ⟨hr, hv, ht0⟩ := id H.1
  obtain ⟨hnx, hct, h5, -⟩ := id H.2.1
  obtain ⟨q1, q2, h7, -, -⟩ := id H.2.2.1
  obtain ⟨v1, hw9, v2, ht⟩ := id H.2.2.2.1
  obtain ⟨hno, hn64⟩ := id H.2.2.2.2
  have n1 := hv.n1
  have n2 := hv.n2
  refine z_aload_n C dL_law_659 1 rfl ?_
  refine z_aload_n C dL_law_660 0 rfl ?_
  refine z_iload C dL_law_661 4 rfl ?_
  refine z_iconst (v := nI 1) C dL_law_663 (by decide) ?_
  refine zn_iadd C dL_law_664 ?_
  refine z_sld C hX hb0 hA0 (i := i + 1) (by omega) (by omega) hx19 dL_law_665 ?_
  refine z_aload_n C dL_law_666 3 rfl ?_
  refine zh_callS C (aX_ok adK adV) hXc (mL_limitOf_no l D κ adK adV (AA 0) g ra (AA 1 0) (AA 2 0) la lb (AA 6 0) (AA 5 0) σ M x hls hr hv hx oa fo) gL_law_L_limitOf rfl rfl rfl hdL_limitOf ⟨(Nat.le_of_ble_eq_true rfl), (Nat.le_of_ble_eq_true rfl)⟩ _ (fun u1 => OUTW κ oa fo ++ (MW κ Ad eo ip w σ aw (hiF h) (hiF s2) ot ++ (SW κ (AA 0) g ++ (RC ra (AA 0 0) (AA 1 0) (AA 2 0) la lb (AA 6 0) (AA 5 0) ++ (SW κ (AA 1) f ++ (HO κ (AA 2) hf nx ct ++ (hW κ Hs gh 10 ++ (SW κ (AA 3) g1 ++ (SO la (AA 3 0) f1 ++ (SW κ (AA 4) g2 ++ (SO lb (AA 4 0) f2 ++ (OW κ (AA 5) no ot ++ (SW κ (AA 7) gp ++ PW κ (AA 6) (AA 7) eo v tx))))))))))))) pmH_S (fun u1 => pmH_S.symm) rfl (Nat.le_of_ble_eq_true rfl) dL_law_667 ⟨by show _ ≤ 601024; omega, by show _ ≤ 7293034; omega⟩ (fun u1 hu1 => ?_)
  refine z_istore C [(5, .int (nI 1)), (0, .ref (sc)), (1, .ref (ra)), (2, .ref (Ad 0)), (3, .ref (oa)), (4, .int (nI i))] dL_law_670 (by decide) rfl ?_
  refine z_aload_n C dL_law_672 3 rfl ?_
  refine z_aload_n C dL_law_673 1 rfl ?_
  refine z_iload C dL_law_674 5 rfl ?_
  refine z_iconst (v := nI 1) C dL_law_676 (by decide) ?_
  refine zn_iadd C dL_law_677 ?_
  refine z_sld C hX hb0 hA0 (i := i + 1) (by omega) (by omega) hx19 dL_law_678 ?_
  refine z_callV C (mX6_limitOf_no l D κ Ad eo ip w σ aw (hiF h) (hiF s2) ot M x hv.1 hx) gL_law_X6_limitOf rfl rfl rfl hdX6_limitOf ⟨(Nat.le_of_ble_eq_true rfl), (Nat.le_of_ble_eq_true rfl)⟩ 0 rfl rfl _ (fun u2 => OUTW κ oa fo ++ (MW κ Ad eo ip (upN w 1 1) σ aw (hiF h) (hiF s2) ot ++ (SW κ (AA 0) g ++ (RC ra (AA 0 0) (AA 1 0) (AA 2 0) la lb (AA 6 0) (AA 5 0) ++ (SW κ (AA 1) f ++ (HO κ (AA 2) hf nx ct ++ (hW κ Hs gh 10 ++ (SW κ (AA 3) g1 ++ (SO la (AA 3 0) f1 ++ (SW κ (AA 4) g2 ++ (SO lb (AA 4 0) f2 ++ (OW κ (AA 5) no ot ++ (SW κ (AA 7) gp ++ PW κ (AA 6) (AA 7) eo v tx))))))))))))) pmM (fun u2 => pmM.symm) rfl (Nat.le_of_ble_eq_true rfl) dL_law_679 ⟨by show _ ≤ 601024; omega, by show _ ≤ 7293034; omega⟩ (fun u2 hu2 => ?_)
  refine z_istore C [(6, .int ((nI 0))), (5, .int (nI 1)), (0, .ref (sc)), (1, .ref (ra)), (2, .ref (Ad 0)), (3, .ref (oa)), (4, .int (nI i))] dL_law_682 (by decide) rfl ?_
  refine z_aload_n C dL_law_684 4 rfl ?_
  refine z_callV C (mX6_thrown l D κ Ad eo ip (upN w 1 1) σ aw (hiF h) (hiF s2) ot) gL_law_X6_thrown rfl rfl rfl hdX6_thrown ⟨(Nat.le_of_ble_eq_true rfl), (Nat.le_of_ble_eq_true rfl)⟩ 0 rfl rfl _ (fun _ => OUTW κ oa fo ++ (MW κ Ad eo ip (upN w 1 1) σ aw (hiF h) (hiF s2) ot ++ (SW κ (AA 0) g ++ (RC ra (AA 0 0) (AA 1 0) (AA 2 0) la lb (AA 6 0) (AA 5 0) ++ (SW κ (AA 1) f ++ (HO κ (AA 2) hf nx ct ++ (hW κ Hs gh 10 ++ (SW κ (AA 3) g1 ++ (SO la (AA 3 0) f1 ++ (SW κ (AA 4) g2 ++ (SO lb (AA 4 0) f2 ++ (OW κ (AA 5) no ot ++ (SW κ (AA 7) gp ++ PW κ (AA 6) (AA 7) eo v tx))))))))))))) pmM (fun _ => pmM.symm) rfl (Nat.le_of_ble_eq_true rfl) dL_law_685 ⟨by show _ ≤ 601024; omega, by show _ ≤ 7293034; omega⟩ (fun _ _ => ?_)
  refine z_iload C dL_law_688 1 rfl ?_
  refine z_icmpE C 695 rfl dL_law_690 (by decide) ?_
  refine z_iload C dL_law_695 1 rfl ?_
  refine z_if_ne C 712 dL_law_697 (by decide) (fun _ => ?_) (fun q => absurd q (by decide))
  refine z_goto (tgt := 2685) C dL_law_712 (by decide) ?_
  refine z_lv [2, 3, 4, 5, 6] rfl ?_
  exact K fo g f g1 g2 gp gh nx ct f1 f2 no ot eo v tx ip (upN w 1 1) σ aw h s2 (cells + 1) (slots + 6) (by omega) (by omega) ((H.mono (by omega) (by omega)).w1 _)
set_option maxRecDepth 100000 in
set_option maxHeartbeats 8000000 in
theorem lc_10_ok (C : zC p s m args c cL_law 9 wsL_law RL D (zTy κ) A) (hXc : aX adK adV A s s.heap) (hls : l.stackTraces = false) (hX : va_X sc L xs s s.heap) (hb0 : sc < s.heap.size) (hA0 : ¬ A sc) (hhf : ∀ j, j < 10 → hf j = some (Hs j 0)) (hi6 : i + 6 ≤ L) (hL : L ≤ 3072) (hcr : cells + 1 ≤ 601024 ∧ slots + 6 ≤ 7293034) (H : LI M g g1 g2 gh nx ct f1 f2 no v tx ip w σ h s2) (hM1 : 700000 ≤ M) (hM : M ≤ 1400000) (K : LGO p l e s m args below meth c D A Q sc κ ra la lb oa Ad AA Hs hf 2685 (M + 1200) i (cells + 1) (slots + 6)) (b : Nat) (hb : b < σ 1) (hx19 : xs (i + 1) = nI b) : zW p l e RML s m args below meth c 9 D A cells slots Q (LAWW κ ra la lb oa Ad AA Hs hf fo g f g1 g2 gp gh nx ct f1 f2 no ot eo v tx ip w σ aw h s2) [(0, .ref (sc)), (1, .ref (ra)), (2, .ref (Ad 0)), (3, .ref (oa)), (4, .int (nI i))] 715 [] := by
  obtain ⟨hr, hv, ht0⟩ := id H.1
  obtain ⟨hnx, hct, h5, -⟩ := id H.2.1
  obtain ⟨q1, q2, h7, -, -⟩ := id H.2.2.1
  obtain ⟨v1, hw9, v2, ht⟩ := id H.2.2.2.1
  obtain ⟨hno, hn64⟩ := id H.2.2.2.2
  have n1 := hv.n1
  have n2 := hv.n2
  refine z_aload_n C dL_law_715 1 rfl ?_
  refine z_aload_n C dL_law_716 0 rfl ?_
  refine z_iload C dL_law_717 4 rfl ?_
  refine z_iconst (v := nI 1) C dL_law_719 (by decide) ?_
  refine zn_iadd C dL_law_720 ?_
  refine z_sld C hX hb0 hA0 (i := i + 1) (by omega) (by omega) hx19 dL_law_721 ?_
  refine z_aload_n C dL_law_722 3 rfl ?_
  refine zh_callS C (aX_ok adK adV) hXc (mL_isClear_ok l D κ (AA 0) g ra (AA 1 0) (AA 2 0) la lb (AA 6 0) (AA 5 0) σ M b hr hv hb adK adV oa fo) gL_law_L_isClear rfl rfl rfl hdL_isClear ⟨(Nat.le_of_ble_eq_true rfl), (Nat.le_of_ble_eq_true rfl)⟩ _ (fun u1 => OUTW κ oa (vp_updL fo 0 (((nI (decide (σ (5 + 6 * b + 4) = 1)).toNat)).toInt64)) ++ (MW κ Ad eo ip w σ aw (hiF h) (hiF s2) ot ++ (SW κ (AA 0) g ++ (RC ra (AA 0 0) (AA 1 0) (AA 2 0) la lb (AA 6 0) (AA 5 0) ++ (SW κ (AA 1) f ++ (HO κ (AA 2) hf nx ct ++ (hW κ Hs gh 10 ++ (SW κ (AA 3) g1 ++ (SO la (AA 3 0) f1 ++ (SW κ (AA 4) g2 ++ (SO lb (AA 4 0) f2 ++ (OW κ (AA 5) no ot ++ (SW κ (AA 7) gp ++ PW κ (AA 6) (AA 7) eo v tx))))))))))))) pmH_S (fun u1 => pmH_S.symm) rfl (Nat.le_of_ble_eq_true rfl) dL_law_723 ⟨by show _ ≤ 601024; omega, by show _ ≤ 7293034; omega⟩ (fun u1 hu1 => ?_)
  refine z_istore C [(5, .int (nI 0)), (0, .ref (sc)), (1, .ref (ra)), (2, .ref (Ad 0)), (3, .ref (oa)), (4, .int (nI i))] dL_law_726 (by decide) rfl ?_
  refine z_aload_n C dL_law_728 3 rfl ?_
  refine z_aload_n C dL_law_729 1 rfl ?_
  refine z_iload C dL_law_730 5 rfl ?_
  refine z_iconst (v := nI 1) C dL_law_732 (by decide) ?_
  refine zn_iadd C dL_law_733 ?_
  refine z_sld C hX hb0 hA0 (i := i + 1) (by omega) (by omega) hx19 dL_law_734 ?_
  refine z_callV C (mX6_isClear_ok l D κ Ad eo ip w σ aw (hiF h) (hiF s2) ot M b hv.1 (by first | assumption | omega)) gL_law_X6_isClear rfl rfl rfl hdX6_isClear ⟨(Nat.le_of_ble_eq_true rfl), (Nat.le_of_ble_eq_true rfl)⟩ 0 rfl rfl _ (fun u2 => OUTW κ oa (vp_updL fo 0 (((nI (decide (σ (5 + 6 * b + 4) = 1)).toNat)).toInt64)) ++ (MW κ Ad eo ip (upN w 1 0) σ aw (hiF h) (hiF s2) ot ++ (SW κ (AA 0) g ++ (RC ra (AA 0 0) (AA 1 0) (AA 2 0) la lb (AA 6 0) (AA 5 0) ++ (SW κ (AA 1) f ++ (HO κ (AA 2) hf nx ct ++ (hW κ Hs gh 10 ++ (SW κ (AA 3) g1 ++ (SO la (AA 3 0) f1 ++ (SW κ (AA 4) g2 ++ (SO lb (AA 4 0) f2 ++ (OW κ (AA 5) no ot ++ (SW κ (AA 7) gp ++ PW κ (AA 6) (AA 7) eo v tx))))))))))))) pmM (fun u2 => pmM.symm) rfl (Nat.le_of_ble_eq_true rfl) dL_law_735 ⟨by show _ ≤ 601024; omega, by show _ ≤ 7293034; omega⟩ (fun u2 hu2 => ?_)
  refine z_istore C [(6, .int (nI (decide (σ (5 + 6 * b + 4) = 1)).toNat)), (5, .int (nI 0)), (0, .ref (sc)), (1, .ref (ra)), (2, .ref (Ad 0)), (3, .ref (oa)), (4, .int (nI i))] dL_law_738 (by decide) rfl ?_
  refine z_aload_n C dL_law_740 4 rfl ?_
  refine z_callV C (mX6_thrown l D κ Ad eo ip (upN w 1 0) σ aw (hiF h) (hiF s2) ot) gL_law_X6_thrown rfl rfl rfl hdX6_thrown ⟨(Nat.le_of_ble_eq_true rfl), (Nat.le_of_ble_eq_true rfl)⟩ 0 rfl rfl _ (fun _ => OUTW κ oa (vp_updL fo 0 (((nI (decide (σ (5 + 6 * b + 4) = 1)).toNat)).toInt64)) ++ (MW κ Ad eo ip (upN w 1 0) σ aw (hiF h) (hiF s2) ot ++ (SW κ (AA 0) g ++ (RC ra (AA 0 0) (AA 1 0) (AA 2 0) la lb (AA 6 0) (AA 5 0) ++ (SW κ (AA 1) f ++ (HO κ (AA 2) hf nx ct ++ (hW κ Hs gh 10 ++ (SW κ (AA 3) g1 ++ (SO la (AA 3 0) f1 ++ (SW κ (AA 4) g2 ++ (SO lb (AA 4 0) f2 ++ (OW κ (AA 5) no ot ++ (SW κ (AA 7) gp ++ PW κ (AA 6) (AA 7) eo v tx))))))))))))) pmM (fun _ => pmM.symm) rfl (Nat.le_of_ble_eq_true rfl) dL_law_741 ⟨by show _ ≤ 601024; omega, by show _ ≤ 7293034; omega⟩ (fun _ _ => ?_)
  refine z_iload C dL_law_744 1 rfl ?_
  refine z_icmpE C 751 rfl dL_law_746 (by decide) ?_
  refine z_iload C dL_law_751 1 rfl ?_
  refine z_if_ne C 775 dL_law_753 (by decide) (fun q => absurd (by decide) q) (fun _ => ?_)
  refine z_aload_n C dL_law_756 5 rfl ?_
  refine z_iconst (v := nI 0) C dL_law_757 (by decide) ?_
  refine z_lald C 0 4 rfl rfl (i := 0) (by decide) (by decide) dL_law_758 ?_
  refine z_iload C dL_law_759 0 rfl ?_
  refine zb_if_eq C 768 dL_law_761 (by decide) (fun h1 => ?_) (fun h2 => ?_)
  · refine z_lconst (v := 0) C dL_law_768 (by decide) ?_
    refine z_lcmpE C (updL_0.trans (by rw [h1]; rfl)) dL_law_769 ?_
    refine z_if_eq C 775 dL_law_770 (by decide) (fun _ => ?_) (fun q => absurd (by decide) q)
    refine z_goto (tgt := 2685) C dL_law_775 (by decide) ?_
    refine z_lv [2, 3, 4, 5, 6] rfl ?_
    exact K (vp_updL fo 0 (((nI (decide (σ (5 + 6 * b + 4) = 1)).toNat)).toInt64)) g f g1 g2 gp gh nx ct f1 f2 no ot eo v tx ip (upN w 1 0) σ aw h s2 cells slots (by omega) (by omega) ((H.mono (by omega) (by omega)).w1 _)
  · refine z_lconst (v := 1) C dL_law_764 (by decide) ?_
    refine z_goto (tgt := 769) C dL_law_765 (by decide) ?_
    refine z_lcmpE C (updL_0.trans (by rw [h2]; rfl)) dL_law_769 ?_
    refine z_if_eq C 775 dL_law_770 (by decide) (fun _ => ?_) (fun q => absurd (by decide) q)
    refine z_goto (tgt := 2685) C dL_law_775 (by decide) ?_
    refine z_lv [2, 3, 4, 5, 6] rfl ?_
    exact K (vp_updL fo 0 (((nI (decide (σ (5 + 6 * b + 4) = 1)).toNat)).toInt64)) g f g1 g2 gp gh nx ct f1 f2 no ot eo v tx ip (upN w 1 0) σ aw h s2 cells slots (by omega) (by omega) ((H.mono (by omega) (by omega)).w1 _)
set_option maxRecDepth 100000 in
set_option maxHeartbeats 8000000 in
theorem lc_10_no (C : zC p s m args c cL_law 9 wsL_law RL D (zTy κ) A) (hXc : aX adK adV A s s.heap) (hls : l.stackTraces = false) (hX : va_X sc L xs s s.heap) (hb0 : sc < s.heap.size) (hA0 : ¬ A sc) (hhf : ∀ j, j < 10 → hf j = some (Hs j 0)) (hi6 : i + 6 ≤ L) (hL : L ≤ 3072) (hcr : cells + 1 ≤ 601024 ∧ slots + 6 ≤ 7293034) (H : LI M g g1 g2 gh nx ct f1 f2 no v tx ip w σ h s2) (hM1 : 700000 ≤ M) (hM : M ≤ 1400000) (K : LGO p l e s m args below meth c D A Q sc κ ra la lb oa Ad AA Hs hf 2685 (M + 1200) i (cells + 1) (slots + 6)) (x : Int32) (hx : isB (σ 1) x = false) (hx19 : xs (i + 1) = x) : zW p l e RML s m args below meth c 9 D A cells slots Q (LAWW κ ra la lb oa Ad AA Hs hf fo g f g1 g2 gp gh nx ct f1 f2 no ot eo v tx ip w σ aw h s2) [(0, .ref (sc)), (1, .ref (ra)), (2, .ref (Ad 0)), (3, .ref (oa)), (4, .int (nI i))] 715 [] := by
  obtain ⟨hr, hv, ht0⟩ := id H.1
  obtain ⟨hnx, hct, h5, -⟩ := id H.2.1
  obtain ⟨q1, q2, h7, -, -⟩ := id H.2.2.1
  obtain ⟨v1, hw9, v2, ht⟩ := id H.2.2.2.1
  obtain ⟨hno, hn64⟩ := id H.2.2.2.2
  have n1 := hv.n1
  have n2 := hv.n2
  refine z_aload_n C dL_law_715 1 rfl ?_
  refine z_aload_n C dL_law_716 0 rfl ?_
  refine z_iload C dL_law_717 4 rfl ?_
  refine z_iconst (v := nI 1) C dL_law_719 (by decide) ?_
  refine zn_iadd C dL_law_720 ?_
  refine z_sld C hX hb0 hA0 (i := i + 1) (by omega) (by omega) hx19 dL_law_721 ?_
  refine z_aload_n C dL_law_722 3 rfl ?_
  refine zh_callS C (aX_ok adK adV) hXc (mL_isClear_no l D κ adK adV (AA 0) g ra (AA 1 0) (AA 2 0) la lb (AA 6 0) (AA 5 0) σ M x hls hr hv hx oa fo) gL_law_L_isClear rfl rfl rfl hdL_isClear ⟨(Nat.le_of_ble_eq_true rfl), (Nat.le_of_ble_eq_true rfl)⟩ _ (fun u1 => OUTW κ oa fo ++ (MW κ Ad eo ip w σ aw (hiF h) (hiF s2) ot ++ (SW κ (AA 0) g ++ (RC ra (AA 0 0) (AA 1 0) (AA 2 0) la lb (AA 6 0) (AA 5 0) ++ (SW κ (AA 1) f ++ (HO κ (AA 2) hf nx ct ++ (hW κ Hs gh 10 ++ (SW κ (AA 3) g1 ++ (SO la (AA 3 0) f1 ++ (SW κ (AA 4) g2 ++ (SO lb (AA 4 0) f2 ++ (OW κ (AA 5) no ot ++ (SW κ (AA 7) gp ++ PW κ (AA 6) (AA 7) eo v tx))))))))))))) pmH_S (fun u1 => pmH_S.symm) rfl (Nat.le_of_ble_eq_true rfl) dL_law_723 ⟨by show _ ≤ 601024; omega, by show _ ≤ 7293034; omega⟩ (fun u1 hu1 => ?_)
  refine z_istore C [(5, .int (nI 1)), (0, .ref (sc)), (1, .ref (ra)), (2, .ref (Ad 0)), (3, .ref (oa)), (4, .int (nI i))] dL_law_726 (by decide) rfl ?_
  refine z_aload_n C dL_law_728 3 rfl ?_
  refine z_aload_n C dL_law_729 1 rfl ?_
  refine z_iload C dL_law_730 5 rfl ?_
  refine z_iconst (v := nI 1) C dL_law_732 (by decide) ?_
  refine zn_iadd C dL_law_733 ?_
  refine z_sld C hX hb0 hA0 (i := i + 1) (by omega) (by omega) hx19 dL_law_734 ?_
  refine z_callV C (mX6_isClear_no l D κ Ad eo ip w σ aw (hiF h) (hiF s2) ot M x hv.1 hx) gL_law_X6_isClear rfl rfl rfl hdX6_isClear ⟨(Nat.le_of_ble_eq_true rfl), (Nat.le_of_ble_eq_true rfl)⟩ 0 rfl rfl _ (fun u2 => OUTW κ oa fo ++ (MW κ Ad eo ip (upN w 1 1) σ aw (hiF h) (hiF s2) ot ++ (SW κ (AA 0) g ++ (RC ra (AA 0 0) (AA 1 0) (AA 2 0) la lb (AA 6 0) (AA 5 0) ++ (SW κ (AA 1) f ++ (HO κ (AA 2) hf nx ct ++ (hW κ Hs gh 10 ++ (SW κ (AA 3) g1 ++ (SO la (AA 3 0) f1 ++ (SW κ (AA 4) g2 ++ (SO lb (AA 4 0) f2 ++ (OW κ (AA 5) no ot ++ (SW κ (AA 7) gp ++ PW κ (AA 6) (AA 7) eo v tx))))))))))))) pmM (fun u2 => pmM.symm) rfl (Nat.le_of_ble_eq_true rfl) dL_law_735 ⟨by show _ ≤ 601024; omega, by show _ ≤ 7293034; omega⟩ (fun u2 hu2 => ?_)
  refine z_istore C [(6, .int (nI (false).toNat)), (5, .int (nI 1)), (0, .ref (sc)), (1, .ref (ra)), (2, .ref (Ad 0)), (3, .ref (oa)), (4, .int (nI i))] dL_law_738 (by decide) rfl ?_
  refine z_aload_n C dL_law_740 4 rfl ?_
  refine z_callV C (mX6_thrown l D κ Ad eo ip (upN w 1 1) σ aw (hiF h) (hiF s2) ot) gL_law_X6_thrown rfl rfl rfl hdX6_thrown ⟨(Nat.le_of_ble_eq_true rfl), (Nat.le_of_ble_eq_true rfl)⟩ 0 rfl rfl _ (fun _ => OUTW κ oa fo ++ (MW κ Ad eo ip (upN w 1 1) σ aw (hiF h) (hiF s2) ot ++ (SW κ (AA 0) g ++ (RC ra (AA 0 0) (AA 1 0) (AA 2 0) la lb (AA 6 0) (AA 5 0) ++ (SW κ (AA 1) f ++ (HO κ (AA 2) hf nx ct ++ (hW κ Hs gh 10 ++ (SW κ (AA 3) g1 ++ (SO la (AA 3 0) f1 ++ (SW κ (AA 4) g2 ++ (SO lb (AA 4 0) f2 ++ (OW κ (AA 5) no ot ++ (SW κ (AA 7) gp ++ PW κ (AA 6) (AA 7) eo v tx))))))))))))) pmM (fun _ => pmM.symm) rfl (Nat.le_of_ble_eq_true rfl) dL_law_741 ⟨by show _ ≤ 601024; omega, by show _ ≤ 7293034; omega⟩ (fun _ _ => ?_)
  refine z_iload C dL_law_744 1 rfl ?_
  refine z_icmpE C 751 rfl dL_law_746 (by decide) ?_
  refine z_iload C dL_law_751 1 rfl ?_
  refine z_if_ne C 775 dL_law_753 (by decide) (fun _ => ?_) (fun q => absurd q (by decide))
  refine z_goto (tgt := 2685) C dL_law_775 (by decide) ?_
  refine z_lv [2, 3, 4, 5, 6] rfl ?_
  exact K fo g f g1 g2 gp gh nx ct f1 f2 no ot eo v tx ip (upN w 1 1) σ aw h s2 (cells + 1) (slots + 6) (by omega) (by omega) ((H.mono (by omega) (by omega)).w1 _)
set_option maxRecDepth 100000 in
set_option maxHeartbeats 8000000 in
theorem lc_11_ok (C : zC p s m args c cL_law 9 wsL_law RL D (zTy κ) A) (hXc : aX adK adV A s s.heap) (hls : l.stackTraces = false) (hX : va_X sc L xs s s.heap) (hb0 : sc < s.heap.size) (hA0 : ¬ A sc) (hhf : ∀ j, j < 10 → hf j = some (Hs j 0)) (hi6 : i + 6 ≤ L) (hL : L ≤ 3072) (hcr : cells + 1 ≤ 601024 ∧ slots + 6 ≤ 7293034) (H : LI M g g1 g2 gh nx ct f1 f2 no v tx ip w σ h s2) (hM1 : 700000 ≤ M) (hM : M ≤ 1400000) (K : LGO p l e s m args below meth c D A Q sc κ ra la lb oa Ad AA Hs hf 2685 (M + 1200) i (cells + 1) (slots + 6)) (b : Nat) (hb : b < σ 1) (hx19 : xs (i + 1) = nI b) : zW p l e RML s m args below meth c 9 D A cells slots Q (LAWW κ ra la lb oa Ad AA Hs hf fo g f g1 g2 gp gh nx ct f1 f2 no ot eo v tx ip w σ aw h s2) [(0, .ref (sc)), (1, .ref (ra)), (2, .ref (Ad 0)), (3, .ref (oa)), (4, .int (nI i))] 778 [] := by
  obtain ⟨hr, hv, ht0⟩ := id H.1
  obtain ⟨hnx, hct, h5, -⟩ := id H.2.1
  obtain ⟨q1, q2, h7, -, -⟩ := id H.2.2.1
  obtain ⟨v1, hw9, v2, ht⟩ := id H.2.2.2.1
  obtain ⟨hno, hn64⟩ := id H.2.2.2.2
  have n1 := hv.n1
  have n2 := hv.n2
  refine z_aload_n C dL_law_778 1 rfl ?_
  refine z_aload_n C dL_law_779 0 rfl ?_
  refine z_iload C dL_law_780 4 rfl ?_
  refine z_iconst (v := nI 1) C dL_law_782 (by decide) ?_
  refine zn_iadd C dL_law_783 ?_
  refine z_sld C hX hb0 hA0 (i := i + 1) (by omega) (by omega) hx19 dL_law_784 ?_
  refine z_aload_n C dL_law_785 3 rfl ?_
  refine zh_callS C (aX_ok adK adV) hXc (mL_trainIn_ok l D κ (AA 0) g ra (AA 1 0) (AA 2 0) la lb (AA 6 0) (AA 5 0) σ M b hr hv hb adK adV oa fo) gL_law_L_trainIn rfl rfl rfl hdL_trainIn ⟨(Nat.le_of_ble_eq_true rfl), (Nat.le_of_ble_eq_true rfl)⟩ _ (fun u1 => OUTW κ oa (vp_updL fo 0 (((tI (trAt σ b))).toInt64)) ++ (MW κ Ad eo ip w σ aw (hiF h) (hiF s2) ot ++ (SW κ (AA 0) g ++ (RC ra (AA 0 0) (AA 1 0) (AA 2 0) la lb (AA 6 0) (AA 5 0) ++ (SW κ (AA 1) f ++ (HO κ (AA 2) hf nx ct ++ (hW κ Hs gh 10 ++ (SW κ (AA 3) g1 ++ (SO la (AA 3 0) f1 ++ (SW κ (AA 4) g2 ++ (SO lb (AA 4 0) f2 ++ (OW κ (AA 5) no ot ++ (SW κ (AA 7) gp ++ PW κ (AA 6) (AA 7) eo v tx))))))))))))) pmH_S (fun u1 => pmH_S.symm) rfl (Nat.le_of_ble_eq_true rfl) dL_law_786 ⟨by show _ ≤ 601024; omega, by show _ ≤ 7293034; omega⟩ (fun u1 hu1 => ?_)
  refine z_istore C [(5, .int (nI 0)), (0, .ref (sc)), (1, .ref (ra)), (2, .ref (Ad 0)), (3, .ref (oa)), (4, .int (nI i))] dL_law_789 (by decide) rfl ?_
  refine z_aload_n C dL_law_791 3 rfl ?_
  refine z_aload_n C dL_law_792 1 rfl ?_
  refine z_iload C dL_law_793 5 rfl ?_
  refine z_iconst (v := nI 1) C dL_law_795 (by decide) ?_
  refine zn_iadd C dL_law_796 ?_
  refine z_sld C hX hb0 hA0 (i := i + 1) (by omega) (by omega) hx19 dL_law_797 ?_
  refine z_callV C (mX6_trainIn_ok l D κ Ad eo ip w σ aw (hiF h) (hiF s2) ot M b hv.1 (by first | assumption | omega)) gL_law_X6_trainIn rfl rfl rfl hdX6_trainIn ⟨(Nat.le_of_ble_eq_true rfl), (Nat.le_of_ble_eq_true rfl)⟩ 0 rfl rfl _ (fun u2 => OUTW κ oa (vp_updL fo 0 (((tI (trAt σ b))).toInt64)) ++ (MW κ Ad eo ip (upN w 1 0) σ aw (hiF h) (hiF s2) ot ++ (SW κ (AA 0) g ++ (RC ra (AA 0 0) (AA 1 0) (AA 2 0) la lb (AA 6 0) (AA 5 0) ++ (SW κ (AA 1) f ++ (HO κ (AA 2) hf nx ct ++ (hW κ Hs gh 10 ++ (SW κ (AA 3) g1 ++ (SO la (AA 3 0) f1 ++ (SW κ (AA 4) g2 ++ (SO lb (AA 4 0) f2 ++ (OW κ (AA 5) no ot ++ (SW κ (AA 7) gp ++ PW κ (AA 6) (AA 7) eo v tx))))))))))))) pmM (fun u2 => pmM.symm) rfl (Nat.le_of_ble_eq_true rfl) dL_law_798 ⟨by show _ ≤ 601024; omega, by show _ ≤ 7293034; omega⟩ (fun u2 hu2 => ?_)
  refine z_istore C [(6, .int ((tI (trAt σ b)))), (5, .int (nI 0)), (0, .ref (sc)), (1, .ref (ra)), (2, .ref (Ad 0)), (3, .ref (oa)), (4, .int (nI i))] dL_law_801 (by decide) rfl ?_
  refine z_aload_n C dL_law_803 4 rfl ?_
  refine z_callV C (mX6_thrown l D κ Ad eo ip (upN w 1 0) σ aw (hiF h) (hiF s2) ot) gL_law_X6_thrown rfl rfl rfl hdX6_thrown ⟨(Nat.le_of_ble_eq_true rfl), (Nat.le_of_ble_eq_true rfl)⟩ 0 rfl rfl _ (fun _ => OUTW κ oa (vp_updL fo 0 (((tI (trAt σ b))).toInt64)) ++ (MW κ Ad eo ip (upN w 1 0) σ aw (hiF h) (hiF s2) ot ++ (SW κ (AA 0) g ++ (RC ra (AA 0 0) (AA 1 0) (AA 2 0) la lb (AA 6 0) (AA 5 0) ++ (SW κ (AA 1) f ++ (HO κ (AA 2) hf nx ct ++ (hW κ Hs gh 10 ++ (SW κ (AA 3) g1 ++ (SO la (AA 3 0) f1 ++ (SW κ (AA 4) g2 ++ (SO lb (AA 4 0) f2 ++ (OW κ (AA 5) no ot ++ (SW κ (AA 7) gp ++ PW κ (AA 6) (AA 7) eo v tx))))))))))))) pmM (fun _ => pmM.symm) rfl (Nat.le_of_ble_eq_true rfl) dL_law_804 ⟨by show _ ≤ 601024; omega, by show _ ≤ 7293034; omega⟩ (fun _ _ => ?_)
  refine z_iload C dL_law_807 1 rfl ?_
  refine z_icmpE C 814 rfl dL_law_809 (by decide) ?_
  refine z_iload C dL_law_814 1 rfl ?_
  refine z_if_ne C 831 dL_law_816 (by decide) (fun q => absurd (by decide) q) (fun _ => ?_)
  refine z_aload_n C dL_law_819 5 rfl ?_
  refine z_iconst (v := nI 0) C dL_law_820 (by decide) ?_
  refine z_lald C 0 4 rfl rfl (i := 0) (by decide) (by decide) dL_law_821 ?_
  refine z_iload C dL_law_822 0 rfl ?_
  refine z_i2l C dL_law_824 rfl ?_
  refine z_lcmpE C (updL_0) dL_law_825 ?_
  refine z_if_eq C 831 dL_law_826 (by decide) (fun _ => ?_) (fun q => absurd (by decide) q)
  refine z_goto (tgt := 2685) C dL_law_831 (by decide) ?_
  refine z_lv [2, 3, 4, 5, 6] rfl ?_
  exact K (vp_updL fo 0 (((tI (trAt σ b))).toInt64)) g f g1 g2 gp gh nx ct f1 f2 no ot eo v tx ip (upN w 1 0) σ aw h s2 cells slots (by omega) (by omega) ((H.mono (by omega) (by omega)).w1 _)
set_option maxRecDepth 100000 in
set_option maxHeartbeats 8000000 in
theorem lc_11_no (C : zC p s m args c cL_law 9 wsL_law RL D (zTy κ) A) (hXc : aX adK adV A s s.heap) (hls : l.stackTraces = false) (hX : va_X sc L xs s s.heap) (hb0 : sc < s.heap.size) (hA0 : ¬ A sc) (hhf : ∀ j, j < 10 → hf j = some (Hs j 0)) (hi6 : i + 6 ≤ L) (hL : L ≤ 3072) (hcr : cells + 1 ≤ 601024 ∧ slots + 6 ≤ 7293034) (H : LI M g g1 g2 gh nx ct f1 f2 no v tx ip w σ h s2) (hM1 : 700000 ≤ M) (hM : M ≤ 1400000) (K : LGO p l e s m args below meth c D A Q sc κ ra la lb oa Ad AA Hs hf 2685 (M + 1200) i (cells + 1) (slots + 6)) (x : Int32) (hx : isB (σ 1) x = false) (hx19 : xs (i + 1) = x) : zW p l e RML s m args below meth c 9 D A cells slots Q (LAWW κ ra la lb oa Ad AA Hs hf fo g f g1 g2 gp gh nx ct f1 f2 no ot eo v tx ip w σ aw h s2) [(0, .ref (sc)), (1, .ref (ra)), (2, .ref (Ad 0)), (3, .ref (oa)), (4, .int (nI i))] 778 [] := by
  obtain ⟨hr, hv, ht0⟩ := id H.1
  obtain ⟨hnx, hct, h5, -⟩ := id H.2.1
  obtain ⟨q1, q2, h7, -, -⟩ := id H.2.2.1
  obtain ⟨v1, hw9, v2, ht⟩ := id H.2.2.2.1
  obtain ⟨hno, hn64⟩ := id H.2.2.2.2
  have n1 := hv.n1
  have n2 := hv.n2
  refine z_aload_n C dL_law_778 1 rfl ?_
  refine z_aload_n C dL_law_779 0 rfl ?_
  refine z_iload C dL_law_780 4 rfl ?_
  refine z_iconst (v := nI 1) C dL_law_782 (by decide) ?_
  refine zn_iadd C dL_law_783 ?_
  refine z_sld C hX hb0 hA0 (i := i + 1) (by omega) (by omega) hx19 dL_law_784 ?_
  refine z_aload_n C dL_law_785 3 rfl ?_
  refine zh_callS C (aX_ok adK adV) hXc (mL_trainIn_no l D κ adK adV (AA 0) g ra (AA 1 0) (AA 2 0) la lb (AA 6 0) (AA 5 0) σ M x hls hr hv hx oa fo) gL_law_L_trainIn rfl rfl rfl hdL_trainIn ⟨(Nat.le_of_ble_eq_true rfl), (Nat.le_of_ble_eq_true rfl)⟩ _ (fun u1 => OUTW κ oa fo ++ (MW κ Ad eo ip w σ aw (hiF h) (hiF s2) ot ++ (SW κ (AA 0) g ++ (RC ra (AA 0 0) (AA 1 0) (AA 2 0) la lb (AA 6 0) (AA 5 0) ++ (SW κ (AA 1) f ++ (HO κ (AA 2) hf nx ct ++ (hW κ Hs gh 10 ++ (SW κ (AA 3) g1 ++ (SO la (AA 3 0) f1 ++ (SW κ (AA 4) g2 ++ (SO lb (AA 4 0) f2 ++ (OW κ (AA 5) no ot ++ (SW κ (AA 7) gp ++ PW κ (AA 6) (AA 7) eo v tx))))))))))))) pmH_S (fun u1 => pmH_S.symm) rfl (Nat.le_of_ble_eq_true rfl) dL_law_786 ⟨by show _ ≤ 601024; omega, by show _ ≤ 7293034; omega⟩ (fun u1 hu1 => ?_)
  refine z_istore C [(5, .int (nI 1)), (0, .ref (sc)), (1, .ref (ra)), (2, .ref (Ad 0)), (3, .ref (oa)), (4, .int (nI i))] dL_law_789 (by decide) rfl ?_
  refine z_aload_n C dL_law_791 3 rfl ?_
  refine z_aload_n C dL_law_792 1 rfl ?_
  refine z_iload C dL_law_793 5 rfl ?_
  refine z_iconst (v := nI 1) C dL_law_795 (by decide) ?_
  refine zn_iadd C dL_law_796 ?_
  refine z_sld C hX hb0 hA0 (i := i + 1) (by omega) (by omega) hx19 dL_law_797 ?_
  refine z_callV C (mX6_trainIn_no l D κ Ad eo ip w σ aw (hiF h) (hiF s2) ot M x hv.1 hx) gL_law_X6_trainIn rfl rfl rfl hdX6_trainIn ⟨(Nat.le_of_ble_eq_true rfl), (Nat.le_of_ble_eq_true rfl)⟩ 0 rfl rfl _ (fun u2 => OUTW κ oa fo ++ (MW κ Ad eo ip (upN w 1 1) σ aw (hiF h) (hiF s2) ot ++ (SW κ (AA 0) g ++ (RC ra (AA 0 0) (AA 1 0) (AA 2 0) la lb (AA 6 0) (AA 5 0) ++ (SW κ (AA 1) f ++ (HO κ (AA 2) hf nx ct ++ (hW κ Hs gh 10 ++ (SW κ (AA 3) g1 ++ (SO la (AA 3 0) f1 ++ (SW κ (AA 4) g2 ++ (SO lb (AA 4 0) f2 ++ (OW κ (AA 5) no ot ++ (SW κ (AA 7) gp ++ PW κ (AA 6) (AA 7) eo v tx))))))))))))) pmM (fun u2 => pmM.symm) rfl (Nat.le_of_ble_eq_true rfl) dL_law_798 ⟨by show _ ≤ 601024; omega, by show _ ≤ 7293034; omega⟩ (fun u2 hu2 => ?_)
  refine z_istore C [(6, .int ((nI 0))), (5, .int (nI 1)), (0, .ref (sc)), (1, .ref (ra)), (2, .ref (Ad 0)), (3, .ref (oa)), (4, .int (nI i))] dL_law_801 (by decide) rfl ?_
  refine z_aload_n C dL_law_803 4 rfl ?_
  refine z_callV C (mX6_thrown l D κ Ad eo ip (upN w 1 1) σ aw (hiF h) (hiF s2) ot) gL_law_X6_thrown rfl rfl rfl hdX6_thrown ⟨(Nat.le_of_ble_eq_true rfl), (Nat.le_of_ble_eq_true rfl)⟩ 0 rfl rfl _ (fun _ => OUTW κ oa fo ++ (MW κ Ad eo ip (upN w 1 1) σ aw (hiF h) (hiF s2) ot ++ (SW κ (AA 0) g ++ (RC ra (AA 0 0) (AA 1 0) (AA 2 0) la lb (AA 6 0) (AA 5 0) ++ (SW κ (AA 1) f ++ (HO κ (AA 2) hf nx ct ++ (hW κ Hs gh 10 ++ (SW κ (AA 3) g1 ++ (SO la (AA 3 0) f1 ++ (SW κ (AA 4) g2 ++ (SO lb (AA 4 0) f2 ++ (OW κ (AA 5) no ot ++ (SW κ (AA 7) gp ++ PW κ (AA 6) (AA 7) eo v tx))))))))))))) pmM (fun _ => pmM.symm) rfl (Nat.le_of_ble_eq_true rfl) dL_law_804 ⟨by show _ ≤ 601024; omega, by show _ ≤ 7293034; omega⟩ (fun _ _ => ?_)
  refine z_iload C dL_law_807 1 rfl ?_
  refine z_icmpE C 814 rfl dL_law_809 (by decide) ?_
  refine z_iload C dL_law_814 1 rfl ?_
  refine z_if_ne C 831 dL_law_816 (by decide) (fun _ => ?_) (fun q => absurd q (by decide))
  refine z_goto (tgt := 2685) C dL_law_831 (by decide) ?_
  refine z_lv [2, 3, 4, 5, 6] rfl ?_
  exact K fo g f g1 g2 gp gh nx ct f1 f2 no ot eo v tx ip (upN w 1 1) σ aw h s2 (cells + 1) (slots + 6) (by omega) (by omega) ((H.mono (by omega) (by omega)).w1 _)
set_option maxRecDepth 100000 in
set_option maxHeartbeats 8000000 in
theorem lc_12_ok (C : zC p s m args c cL_law 9 wsL_law RL D (zTy κ) A) (hXc : aX adK adV A s s.heap) (hls : l.stackTraces = false) (hX : va_X sc L xs s s.heap) (hb0 : sc < s.heap.size) (hA0 : ¬ A sc) (hhf : ∀ j, j < 10 → hf j = some (Hs j 0)) (hi6 : i + 6 ≤ L) (hL : L ≤ 3072) (hcr : cells + 1 ≤ 601024 ∧ slots + 6 ≤ 7293034) (H : LI M g g1 g2 gh nx ct f1 f2 no v tx ip w σ h s2) (hM1 : 700000 ≤ M) (hM : M ≤ 1400000) (K : LGO p l e s m args below meth c D A Q sc κ ra la lb oa Ad AA Hs hf 2685 (M + 1200) i (cells + 1) (slots + 6)) (b : Nat) (hb : b < σ 1) (hx19 : xs (i + 1) = nI b) : zW p l e RML s m args below meth c 9 D A cells slots Q (LAWW κ ra la lb oa Ad AA Hs hf fo g f g1 g2 gp gh nx ct f1 f2 no ot eo v tx ip w σ aw h s2) [(0, .ref (sc)), (1, .ref (ra)), (2, .ref (Ad 0)), (3, .ref (oa)), (4, .int (nI i))] 834 [] := by
  obtain ⟨hr, hv, ht0⟩ := id H.1
  obtain ⟨hnx, hct, h5, -⟩ := id H.2.1
  obtain ⟨q1, q2, h7, -, -⟩ := id H.2.2.1
  obtain ⟨v1, hw9, v2, ht⟩ := id H.2.2.2.1
  obtain ⟨hno, hn64⟩ := id H.2.2.2.2
  have n1 := hv.n1
  have n2 := hv.n2
  refine z_aload_n C dL_law_834 1 rfl ?_
  refine z_aload_n C dL_law_835 0 rfl ?_
  refine z_iload C dL_law_836 4 rfl ?_
  refine z_iconst (v := nI 1) C dL_law_838 (by decide) ?_
  refine zn_iadd C dL_law_839 ?_
  refine z_sld C hX hb0 hA0 (i := i + 1) (by omega) (by omega) hx19 dL_law_840 ?_
  refine z_aload_n C dL_law_841 3 rfl ?_
  refine zh_callS C (aX_ok adK adV) hXc (mL_lostIn_ok l D κ (AA 0) g ra (AA 1 0) (AA 2 0) la lb (AA 6 0) (AA 5 0) σ M b hr hv hb adK adV oa fo) gL_law_L_lostIn rfl rfl rfl hdL_lostIn ⟨(Nat.le_of_ble_eq_true rfl), (Nat.le_of_ble_eq_true rfl)⟩ _ (fun u1 => OUTW κ oa (vp_updL fo 0 (((nI (σ (5 + 6 * b + 5)))).toInt64)) ++ (MW κ Ad eo ip w σ aw (hiF h) (hiF s2) ot ++ (SW κ (AA 0) g ++ (RC ra (AA 0 0) (AA 1 0) (AA 2 0) la lb (AA 6 0) (AA 5 0) ++ (SW κ (AA 1) f ++ (HO κ (AA 2) hf nx ct ++ (hW κ Hs gh 10 ++ (SW κ (AA 3) g1 ++ (SO la (AA 3 0) f1 ++ (SW κ (AA 4) g2 ++ (SO lb (AA 4 0) f2 ++ (OW κ (AA 5) no ot ++ (SW κ (AA 7) gp ++ PW κ (AA 6) (AA 7) eo v tx))))))))))))) pmH_S (fun u1 => pmH_S.symm) rfl (Nat.le_of_ble_eq_true rfl) dL_law_842 ⟨by show _ ≤ 601024; omega, by show _ ≤ 7293034; omega⟩ (fun u1 hu1 => ?_)
  refine z_istore C [(5, .int (nI 0)), (0, .ref (sc)), (1, .ref (ra)), (2, .ref (Ad 0)), (3, .ref (oa)), (4, .int (nI i))] dL_law_845 (by decide) rfl ?_
  refine z_aload_n C dL_law_847 3 rfl ?_
  refine z_aload_n C dL_law_848 1 rfl ?_
  refine z_iload C dL_law_849 5 rfl ?_
  refine z_iconst (v := nI 1) C dL_law_851 (by decide) ?_
  refine zn_iadd C dL_law_852 ?_
  refine z_sld C hX hb0 hA0 (i := i + 1) (by omega) (by omega) hx19 dL_law_853 ?_
  refine z_callV C (mX6_lostIn_ok l D κ Ad eo ip w σ aw (hiF h) (hiF s2) ot M b hv.1 (by first | assumption | omega)) gL_law_X6_lostIn rfl rfl rfl hdX6_lostIn ⟨(Nat.le_of_ble_eq_true rfl), (Nat.le_of_ble_eq_true rfl)⟩ 0 rfl rfl _ (fun u2 => OUTW κ oa (vp_updL fo 0 (((nI (σ (5 + 6 * b + 5)))).toInt64)) ++ (MW κ Ad eo ip (upN w 1 0) σ aw (hiF h) (hiF s2) ot ++ (SW κ (AA 0) g ++ (RC ra (AA 0 0) (AA 1 0) (AA 2 0) la lb (AA 6 0) (AA 5 0) ++ (SW κ (AA 1) f ++ (HO κ (AA 2) hf nx ct ++ (hW κ Hs gh 10 ++ (SW κ (AA 3) g1 ++ (SO la (AA 3 0) f1 ++ (SW κ (AA 4) g2 ++ (SO lb (AA 4 0) f2 ++ (OW κ (AA 5) no ot ++ (SW κ (AA 7) gp ++ PW κ (AA 6) (AA 7) eo v tx))))))))))))) pmM (fun u2 => pmM.symm) rfl (Nat.le_of_ble_eq_true rfl) dL_law_854 ⟨by show _ ≤ 601024; omega, by show _ ≤ 7293034; omega⟩ (fun u2 hu2 => ?_)
  refine z_istore C [(6, .int ((nI (σ (5 + 6 * b + 5))))), (5, .int (nI 0)), (0, .ref (sc)), (1, .ref (ra)), (2, .ref (Ad 0)), (3, .ref (oa)), (4, .int (nI i))] dL_law_857 (by decide) rfl ?_
  refine z_aload_n C dL_law_859 4 rfl ?_
  refine z_callV C (mX6_thrown l D κ Ad eo ip (upN w 1 0) σ aw (hiF h) (hiF s2) ot) gL_law_X6_thrown rfl rfl rfl hdX6_thrown ⟨(Nat.le_of_ble_eq_true rfl), (Nat.le_of_ble_eq_true rfl)⟩ 0 rfl rfl _ (fun _ => OUTW κ oa (vp_updL fo 0 (((nI (σ (5 + 6 * b + 5)))).toInt64)) ++ (MW κ Ad eo ip (upN w 1 0) σ aw (hiF h) (hiF s2) ot ++ (SW κ (AA 0) g ++ (RC ra (AA 0 0) (AA 1 0) (AA 2 0) la lb (AA 6 0) (AA 5 0) ++ (SW κ (AA 1) f ++ (HO κ (AA 2) hf nx ct ++ (hW κ Hs gh 10 ++ (SW κ (AA 3) g1 ++ (SO la (AA 3 0) f1 ++ (SW κ (AA 4) g2 ++ (SO lb (AA 4 0) f2 ++ (OW κ (AA 5) no ot ++ (SW κ (AA 7) gp ++ PW κ (AA 6) (AA 7) eo v tx))))))))))))) pmM (fun _ => pmM.symm) rfl (Nat.le_of_ble_eq_true rfl) dL_law_860 ⟨by show _ ≤ 601024; omega, by show _ ≤ 7293034; omega⟩ (fun _ _ => ?_)
  refine z_iload C dL_law_863 1 rfl ?_
  refine z_icmpE C 870 rfl dL_law_865 (by decide) ?_
  refine z_iload C dL_law_870 1 rfl ?_
  refine z_if_ne C 887 dL_law_872 (by decide) (fun q => absurd (by decide) q) (fun _ => ?_)
  refine z_aload_n C dL_law_875 5 rfl ?_
  refine z_iconst (v := nI 0) C dL_law_876 (by decide) ?_
  refine z_lald C 0 4 rfl rfl (i := 0) (by decide) (by decide) dL_law_877 ?_
  refine z_iload C dL_law_878 0 rfl ?_
  refine z_i2l C dL_law_880 rfl ?_
  refine z_lcmpE C (updL_0) dL_law_881 ?_
  refine z_if_eq C 887 dL_law_882 (by decide) (fun _ => ?_) (fun q => absurd (by decide) q)
  refine z_goto (tgt := 2685) C dL_law_887 (by decide) ?_
  refine z_lv [2, 3, 4, 5, 6] rfl ?_
  exact K (vp_updL fo 0 (((nI (σ (5 + 6 * b + 5)))).toInt64)) g f g1 g2 gp gh nx ct f1 f2 no ot eo v tx ip (upN w 1 0) σ aw h s2 cells slots (by omega) (by omega) ((H.mono (by omega) (by omega)).w1 _)
set_option maxRecDepth 100000 in
set_option maxHeartbeats 8000000 in
theorem lc_12_no (C : zC p s m args c cL_law 9 wsL_law RL D (zTy κ) A) (hXc : aX adK adV A s s.heap) (hls : l.stackTraces = false) (hX : va_X sc L xs s s.heap) (hb0 : sc < s.heap.size) (hA0 : ¬ A sc) (hhf : ∀ j, j < 10 → hf j = some (Hs j 0)) (hi6 : i + 6 ≤ L) (hL : L ≤ 3072) (hcr : cells + 1 ≤ 601024 ∧ slots + 6 ≤ 7293034) (H : LI M g g1 g2 gh nx ct f1 f2 no v tx ip w σ h s2) (hM1 : 700000 ≤ M) (hM : M ≤ 1400000) (K : LGO p l e s m args below meth c D A Q sc κ ra la lb oa Ad AA Hs hf 2685 (M + 1200) i (cells + 1) (slots + 6)) (x : Int32) (hx : isB (σ 1) x = false) (hx19 : xs (i + 1) = x) : zW p l e RML s m args below meth c 9 D A cells slots Q (LAWW κ ra la lb oa Ad AA Hs hf fo g f g1 g2 gp gh nx ct f1 f2 no ot eo v tx ip w σ aw h s2) [(0, .ref (sc)), (1, .ref (ra)), (2, .ref (Ad 0)), (3, .ref (oa)), (4, .int (nI i))] 834 [] := by
  obtain ⟨hr, hv, ht0⟩ := id H.1
  obtain ⟨hnx, hct, h5, -⟩ := id H.2.1
  obtain ⟨q1, q2, h7, -, -⟩ := id H.2.2.1
  obtain ⟨v1, hw9, v2, ht⟩ := id H.2.2.2.1
  obtain ⟨hno, hn64⟩ := id H.2.2.2.2
  have n1 := hv.n1
  have n2 := hv.n2
  refine z_aload_n C dL_law_834 1 rfl ?_
  refine z_aload_n C dL_law_835 0 rfl ?_
  refine z_iload C dL_law_836 4 rfl ?_
  refine z_iconst (v := nI 1) C dL_law_838 (by decide) ?_
  refine zn_iadd C dL_law_839 ?_
  refine z_sld C hX hb0 hA0 (i := i + 1) (by omega) (by omega) hx19 dL_law_840 ?_
  refine z_aload_n C dL_law_841 3 rfl ?_
  refine zh_callS C (aX_ok adK adV) hXc (mL_lostIn_no l D κ adK adV (AA 0) g ra (AA 1 0) (AA 2 0) la lb (AA 6 0) (AA 5 0) σ M x hls hr hv hx oa fo) gL_law_L_lostIn rfl rfl rfl hdL_lostIn ⟨(Nat.le_of_ble_eq_true rfl), (Nat.le_of_ble_eq_true rfl)⟩ _ (fun u1 => OUTW κ oa fo ++ (MW κ Ad eo ip w σ aw (hiF h) (hiF s2) ot ++ (SW κ (AA 0) g ++ (RC ra (AA 0 0) (AA 1 0) (AA 2 0) la lb (AA 6 0) (AA 5 0) ++ (SW κ (AA 1) f ++ (HO κ (AA 2) hf nx ct ++ (hW κ Hs gh 10 ++ (SW κ (AA 3) g1 ++ (SO la (AA 3 0) f1 ++ (SW κ (AA 4) g2 ++ (SO lb (AA 4 0) f2 ++ (OW κ (AA 5) no ot ++ (SW κ (AA 7) gp ++ PW κ (AA 6) (AA 7) eo v tx))))))))))))) pmH_S (fun u1 => pmH_S.symm) rfl (Nat.le_of_ble_eq_true rfl) dL_law_842 ⟨by show _ ≤ 601024; omega, by show _ ≤ 7293034; omega⟩ (fun u1 hu1 => ?_)
  refine z_istore C [(5, .int (nI 1)), (0, .ref (sc)), (1, .ref (ra)), (2, .ref (Ad 0)), (3, .ref (oa)), (4, .int (nI i))] dL_law_845 (by decide) rfl ?_
  refine z_aload_n C dL_law_847 3 rfl ?_
  refine z_aload_n C dL_law_848 1 rfl ?_
  refine z_iload C dL_law_849 5 rfl ?_
  refine z_iconst (v := nI 1) C dL_law_851 (by decide) ?_
  refine zn_iadd C dL_law_852 ?_
  refine z_sld C hX hb0 hA0 (i := i + 1) (by omega) (by omega) hx19 dL_law_853 ?_
  refine z_callV C (mX6_lostIn_no l D κ Ad eo ip w σ aw (hiF h) (hiF s2) ot M x hv.1 hx) gL_law_X6_lostIn rfl rfl rfl hdX6_lostIn ⟨(Nat.le_of_ble_eq_true rfl), (Nat.le_of_ble_eq_true rfl)⟩ 0 rfl rfl _ (fun u2 => OUTW κ oa fo ++ (MW κ Ad eo ip (upN w 1 1) σ aw (hiF h) (hiF s2) ot ++ (SW κ (AA 0) g ++ (RC ra (AA 0 0) (AA 1 0) (AA 2 0) la lb (AA 6 0) (AA 5 0) ++ (SW κ (AA 1) f ++ (HO κ (AA 2) hf nx ct ++ (hW κ Hs gh 10 ++ (SW κ (AA 3) g1 ++ (SO la (AA 3 0) f1 ++ (SW κ (AA 4) g2 ++ (SO lb (AA 4 0) f2 ++ (OW κ (AA 5) no ot ++ (SW κ (AA 7) gp ++ PW κ (AA 6) (AA 7) eo v tx))))))))))))) pmM (fun u2 => pmM.symm) rfl (Nat.le_of_ble_eq_true rfl) dL_law_854 ⟨by show _ ≤ 601024; omega, by show _ ≤ 7293034; omega⟩ (fun u2 hu2 => ?_)
  refine z_istore C [(6, .int ((nI 0))), (5, .int (nI 1)), (0, .ref (sc)), (1, .ref (ra)), (2, .ref (Ad 0)), (3, .ref (oa)), (4, .int (nI i))] dL_law_857 (by decide) rfl ?_
  refine z_aload_n C dL_law_859 4 rfl ?_
  refine z_callV C (mX6_thrown l D κ Ad eo ip (upN w 1 1) σ aw (hiF h) (hiF s2) ot) gL_law_X6_thrown rfl rfl rfl hdX6_thrown ⟨(Nat.le_of_ble_eq_true rfl), (Nat.le_of_ble_eq_true rfl)⟩ 0 rfl rfl _ (fun _ => OUTW κ oa fo ++ (MW κ Ad eo ip (upN w 1 1) σ aw (hiF h) (hiF s2) ot ++ (SW κ (AA 0) g ++ (RC ra (AA 0 0) (AA 1 0) (AA 2 0) la lb (AA 6 0) (AA 5 0) ++ (SW κ (AA 1) f ++ (HO κ (AA 2) hf nx ct ++ (hW κ Hs gh 10 ++ (SW κ (AA 3) g1 ++ (SO la (AA 3 0) f1 ++ (SW κ (AA 4) g2 ++ (SO lb (AA 4 0) f2 ++ (OW κ (AA 5) no ot ++ (SW κ (AA 7) gp ++ PW κ (AA 6) (AA 7) eo v tx))))))))))))) pmM (fun _ => pmM.symm) rfl (Nat.le_of_ble_eq_true rfl) dL_law_860 ⟨by show _ ≤ 601024; omega, by show _ ≤ 7293034; omega⟩ (fun _ _ => ?_)
  refine z_iload C dL_law_863 1 rfl ?_
  refine z_icmpE C 870 rfl dL_law_865 (by decide) ?_
  refine z_iload C dL_law_870 1 rfl ?_
  refine z_if_ne C 887 dL_law_872 (by decide) (fun _ => ?_) (fun q => absurd q (by decide))
  refine z_goto (tgt := 2685) C dL_law_887 (by decide) ?_
  refine z_lv [2, 3, 4, 5, 6] rfl ?_
  exact K fo g f g1 g2 gp gh nx ct f1 f2 no ot eo v tx ip (upN w 1 1) σ aw h s2 (cells + 1) (slots + 6) (by omega) (by omega) ((H.mono (by omega) (by omega)).w1 _)
set_option maxRecDepth 100000 in
set_option maxHeartbeats 8000000 in
theorem lc_13_ok (C : zC p s m args c cL_law 9 wsL_law RL D (zTy κ) A) (hXc : aX adK adV A s s.heap) (hls : l.stackTraces = false) (hX : va_X sc L xs s s.heap) (hb0 : sc < s.heap.size) (hA0 : ¬ A sc) (hhf : ∀ j, j < 10 → hf j = some (Hs j 0)) (hi6 : i + 6 ≤ L) (hL : L ≤ 3072) (hcr : cells + 1 ≤ 601024 ∧ slots + 6 ≤ 7293034) (H : LI M g g1 g2 gh nx ct f1 f2 no v tx ip w σ h s2) (hM1 : 700000 ≤ M) (hM : M ≤ 1400000) (K : LGO p l e s m args below meth c D A Q sc κ ra la lb oa Ad AA Hs hf 2685 (M + 1200) i (cells + 1) (slots + 6)) (b : Nat) (hb : b < σ 1) (hx19 : xs (i + 1) = nI b) : zW p l e RML s m args below meth c 9 D A cells slots Q (LAWW κ ra la lb oa Ad AA Hs hf fo g f g1 g2 gp gh nx ct f1 f2 no ot eo v tx ip w σ aw h s2) [(0, .ref (sc)), (1, .ref (ra)), (2, .ref (Ad 0)), (3, .ref (oa)), (4, .int (nI i))] 890 [] := by
  obtain ⟨hr, hv, ht0⟩ := id H.1
  obtain ⟨hnx, hct, h5, -⟩ := id H.2.1
  obtain ⟨q1, q2, h7, -, -⟩ := id H.2.2.1
  obtain ⟨v1, hw9, v2, ht⟩ := id H.2.2.2.1
  obtain ⟨hno, hn64⟩ := id H.2.2.2.2
  have n1 := hv.n1
  have n2 := hv.n2
  refine z_aload_n C dL_law_890 1 rfl ?_
  refine z_aload_n C dL_law_891 0 rfl ?_
  refine z_iload C dL_law_892 4 rfl ?_
  refine z_iconst (v := nI 1) C dL_law_894 (by decide) ?_
  refine zn_iadd C dL_law_895 ?_
  refine z_sld C hX hb0 hA0 (i := i + 1) (by omega) (by omega) hx19 dL_law_896 ?_
  refine z_aload_n C dL_law_897 3 rfl ?_
  refine zh_callS C (aX_ok adK adV) hXc (mL_departuresFrom_ok l D κ (AA 0) g ra (AA 1 0) (AA 2 0) la lb (AA 6 0) (AA 5 0) σ M b hr hv hb adK adV oa fo) gL_law_L_departuresFrom rfl rfl rfl hdL_departuresFrom ⟨(Nat.le_of_ble_eq_true rfl), (Nat.le_of_ble_eq_true rfl)⟩ _ (fun u1 => OUTW κ oa (vp_updL fo 0 (((nI (sumL (fun i => σ (90 + 10 * i + b)) (σ 2)))).toInt64)) ++ (MW κ Ad eo ip w σ aw (hiF h) (hiF s2) ot ++ (SW κ (AA 0) g ++ (RC ra (AA 0 0) (AA 1 0) (AA 2 0) la lb (AA 6 0) (AA 5 0) ++ (SW κ (AA 1) f ++ (HO κ (AA 2) hf nx ct ++ (hW κ Hs gh 10 ++ (SW κ (AA 3) g1 ++ (SO la (AA 3 0) f1 ++ (SW κ (AA 4) g2 ++ (SO lb (AA 4 0) f2 ++ (OW κ (AA 5) no ot ++ (SW κ (AA 7) gp ++ PW κ (AA 6) (AA 7) eo v tx))))))))))))) pmH_S (fun u1 => pmH_S.symm) rfl (Nat.le_of_ble_eq_true rfl) dL_law_898 ⟨by show _ ≤ 601024; omega, by show _ ≤ 7293034; omega⟩ (fun u1 hu1 => ?_)
  refine z_istore C [(5, .int (nI 0)), (0, .ref (sc)), (1, .ref (ra)), (2, .ref (Ad 0)), (3, .ref (oa)), (4, .int (nI i))] dL_law_901 (by decide) rfl ?_
  refine z_aload_n C dL_law_903 3 rfl ?_
  refine z_aload_n C dL_law_904 1 rfl ?_
  refine z_iload C dL_law_905 5 rfl ?_
  refine z_iconst (v := nI 1) C dL_law_907 (by decide) ?_
  refine zn_iadd C dL_law_908 ?_
  refine z_sld C hX hb0 hA0 (i := i + 1) (by omega) (by omega) hx19 dL_law_909 ?_
  refine z_callV C (mX6_departuresFrom_ok l D κ Ad eo ip w σ aw (hiF h) (hiF s2) ot M b hv.1 (by first | assumption | omega)) gL_law_X6_departuresFrom rfl rfl rfl hdX6_departuresFrom ⟨(Nat.le_of_ble_eq_true rfl), (Nat.le_of_ble_eq_true rfl)⟩ 0 rfl rfl _ (fun u2 => OUTW κ oa (vp_updL fo 0 (((nI (sumL (fun i => σ (90 + 10 * i + b)) (σ 2)))).toInt64)) ++ (MW κ Ad eo ip (upN w 1 0) σ aw (hiF h) (hiF s2) ot ++ (SW κ (AA 0) g ++ (RC ra (AA 0 0) (AA 1 0) (AA 2 0) la lb (AA 6 0) (AA 5 0) ++ (SW κ (AA 1) f ++ (HO κ (AA 2) hf nx ct ++ (hW κ Hs gh 10 ++ (SW κ (AA 3) g1 ++ (SO la (AA 3 0) f1 ++ (SW κ (AA 4) g2 ++ (SO lb (AA 4 0) f2 ++ (OW κ (AA 5) no ot ++ (SW κ (AA 7) gp ++ PW κ (AA 6) (AA 7) eo v tx))))))))))))) pmM (fun u2 => pmM.symm) rfl (Nat.le_of_ble_eq_true rfl) dL_law_910 ⟨by show _ ≤ 601024; omega, by show _ ≤ 7293034; omega⟩ (fun u2 hu2 => ?_)
  refine z_istore C [(6, .int ((nI (sumL (fun i => σ (90 + 10 * i + b)) (σ 2))))), (5, .int (nI 0)), (0, .ref (sc)), (1, .ref (ra)), (2, .ref (Ad 0)), (3, .ref (oa)), (4, .int (nI i))] dL_law_913 (by decide) rfl ?_
  refine z_aload_n C dL_law_915 4 rfl ?_
  refine z_callV C (mX6_thrown l D κ Ad eo ip (upN w 1 0) σ aw (hiF h) (hiF s2) ot) gL_law_X6_thrown rfl rfl rfl hdX6_thrown ⟨(Nat.le_of_ble_eq_true rfl), (Nat.le_of_ble_eq_true rfl)⟩ 0 rfl rfl _ (fun _ => OUTW κ oa (vp_updL fo 0 (((nI (sumL (fun i => σ (90 + 10 * i + b)) (σ 2)))).toInt64)) ++ (MW κ Ad eo ip (upN w 1 0) σ aw (hiF h) (hiF s2) ot ++ (SW κ (AA 0) g ++ (RC ra (AA 0 0) (AA 1 0) (AA 2 0) la lb (AA 6 0) (AA 5 0) ++ (SW κ (AA 1) f ++ (HO κ (AA 2) hf nx ct ++ (hW κ Hs gh 10 ++ (SW κ (AA 3) g1 ++ (SO la (AA 3 0) f1 ++ (SW κ (AA 4) g2 ++ (SO lb (AA 4 0) f2 ++ (OW κ (AA 5) no ot ++ (SW κ (AA 7) gp ++ PW κ (AA 6) (AA 7) eo v tx))))))))))))) pmM (fun _ => pmM.symm) rfl (Nat.le_of_ble_eq_true rfl) dL_law_916 ⟨by show _ ≤ 601024; omega, by show _ ≤ 7293034; omega⟩ (fun _ _ => ?_)
  refine z_iload C dL_law_919 1 rfl ?_
  refine z_icmpE C 926 rfl dL_law_921 (by decide) ?_
  refine z_iload C dL_law_926 1 rfl ?_
  refine z_if_ne C 943 dL_law_928 (by decide) (fun q => absurd (by decide) q) (fun _ => ?_)
  refine z_aload_n C dL_law_931 5 rfl ?_
  refine z_iconst (v := nI 0) C dL_law_932 (by decide) ?_
  refine z_lald C 0 4 rfl rfl (i := 0) (by decide) (by decide) dL_law_933 ?_
  refine z_iload C dL_law_934 0 rfl ?_
  refine z_i2l C dL_law_936 rfl ?_
  refine z_lcmpE C (updL_0) dL_law_937 ?_
  refine z_if_eq C 943 dL_law_938 (by decide) (fun _ => ?_) (fun q => absurd (by decide) q)
  refine z_goto (tgt := 2685) C dL_law_943 (by decide) ?_
  refine z_lv [2, 3, 4, 5, 6] rfl ?_
  exact K (vp_updL fo 0 (((nI (sumL (fun i => σ (90 + 10 * i + b)) (σ 2)))).toInt64)) g f g1 g2 gp gh nx ct f1 f2 no ot eo v tx ip (upN w 1 0) σ aw h s2 cells slots (by omega) (by omega) ((H.mono (by omega) (by omega)).w1 _)
set_option maxRecDepth 100000 in
set_option maxHeartbeats 8000000 in
theorem lc_13_no (C : zC p s m args c cL_law 9 wsL_law RL D (zTy κ) A) (hXc : aX adK adV A s s.heap) (hls : l.stackTraces = false) (hX : va_X sc L xs s s.heap) (hb0 : sc < s.heap.size) (hA0 : ¬ A sc) (hhf : ∀ j, j < 10 → hf j = some (Hs j 0)) (hi6 : i + 6 ≤ L) (hL : L ≤ 3072) (hcr : cells + 1 ≤ 601024 ∧ slots + 6 ≤ 7293034) (H : LI M g g1 g2 gh nx ct f1 f2 no v tx ip w σ h s2) (hM1 : 700000 ≤ M) (hM : M ≤ 1400000) (K : LGO p l e s m args below meth c D A Q sc κ ra la lb oa Ad AA Hs hf 2685 (M + 1200) i (cells + 1) (slots + 6)) (x : Int32) (hx : isB (σ 1) x = false) (hx19 : xs (i + 1) = x) : zW p l e RML s m args below meth c 9 D A cells slots Q (LAWW κ ra la lb oa Ad AA Hs hf fo g f g1 g2 gp gh nx ct f1 f2 no ot eo v tx ip w σ aw h s2) [(0, .ref (sc)), (1, .ref (ra)), (2, .ref (Ad 0)), (3, .ref (oa)), (4, .int (nI i))] 890 [] := by
  obtain ⟨hr, hv, ht0⟩ := id H.1
  obtain ⟨hnx, hct, h5, -⟩ := id H.2.1
  obtain ⟨q1, q2, h7, -, -⟩ := id H.2.2.1
  obtain ⟨v1, hw9, v2, ht⟩ := id H.2.2.2.1
  obtain ⟨hno, hn64⟩ := id H.2.2.2.2
  have n1 := hv.n1
  have n2 := hv.n2
  refine z_aload_n C dL_law_890 1 rfl ?_
  refine z_aload_n C dL_law_891 0 rfl ?_
  refine z_iload C dL_law_892 4 rfl ?_
  refine z_iconst (v := nI 1) C dL_law_894 (by decide) ?_
  refine zn_iadd C dL_law_895 ?_
  refine z_sld C hX hb0 hA0 (i := i + 1) (by omega) (by omega) hx19 dL_law_896 ?_
  refine z_aload_n C dL_law_897 3 rfl ?_
  refine zh_callS C (aX_ok adK adV) hXc (mL_departuresFrom_no l D κ adK adV (AA 0) g ra (AA 1 0) (AA 2 0) la lb (AA 6 0) (AA 5 0) σ M x hls hr hv hx oa fo) gL_law_L_departuresFrom rfl rfl rfl hdL_departuresFrom ⟨(Nat.le_of_ble_eq_true rfl), (Nat.le_of_ble_eq_true rfl)⟩ _ (fun u1 => OUTW κ oa fo ++ (MW κ Ad eo ip w σ aw (hiF h) (hiF s2) ot ++ (SW κ (AA 0) g ++ (RC ra (AA 0 0) (AA 1 0) (AA 2 0) la lb (AA 6 0) (AA 5 0) ++ (SW κ (AA 1) f ++ (HO κ (AA 2) hf nx ct ++ (hW κ Hs gh 10 ++ (SW κ (AA 3) g1 ++ (SO la (AA 3 0) f1 ++ (SW κ (AA 4) g2 ++ (SO lb (AA 4 0) f2 ++ (OW κ (AA 5) no ot ++ (SW κ (AA 7) gp ++ PW κ (AA 6) (AA 7) eo v tx))))))))))))) pmH_S (fun u1 => pmH_S.symm) rfl (Nat.le_of_ble_eq_true rfl) dL_law_898 ⟨by show _ ≤ 601024; omega, by show _ ≤ 7293034; omega⟩ (fun u1 hu1 => ?_)
  refine z_istore C [(5, .int (nI 1)), (0, .ref (sc)), (1, .ref (ra)), (2, .ref (Ad 0)), (3, .ref (oa)), (4, .int (nI i))] dL_law_901 (by decide) rfl ?_
  refine z_aload_n C dL_law_903 3 rfl ?_
  refine z_aload_n C dL_law_904 1 rfl ?_
  refine z_iload C dL_law_905 5 rfl ?_
  refine z_iconst (v := nI 1) C dL_law_907 (by decide) ?_
  refine zn_iadd C dL_law_908 ?_
  refine z_sld C hX hb0 hA0 (i := i + 1) (by omega) (by omega) hx19 dL_law_909 ?_
  refine z_callV C (mX6_departuresFrom_no l D κ Ad eo ip w σ aw (hiF h) (hiF s2) ot M x hv.1 hx) gL_law_X6_departuresFrom rfl rfl rfl hdX6_departuresFrom ⟨(Nat.le_of_ble_eq_true rfl), (Nat.le_of_ble_eq_true rfl)⟩ 0 rfl rfl _ (fun u2 => OUTW κ oa fo ++ (MW κ Ad eo ip (upN w 1 1) σ aw (hiF h) (hiF s2) ot ++ (SW κ (AA 0) g ++ (RC ra (AA 0 0) (AA 1 0) (AA 2 0) la lb (AA 6 0) (AA 5 0) ++ (SW κ (AA 1) f ++ (HO κ (AA 2) hf nx ct ++ (hW κ Hs gh 10 ++ (SW κ (AA 3) g1 ++ (SO la (AA 3 0) f1 ++ (SW κ (AA 4) g2 ++ (SO lb (AA 4 0) f2 ++ (OW κ (AA 5) no ot ++ (SW κ (AA 7) gp ++ PW κ (AA 6) (AA 7) eo v tx))))))))))))) pmM (fun u2 => pmM.symm) rfl (Nat.le_of_ble_eq_true rfl) dL_law_910 ⟨by show _ ≤ 601024; omega, by show _ ≤ 7293034; omega⟩ (fun u2 hu2 => ?_)
  refine z_istore C [(6, .int ((nI 0))), (5, .int (nI 1)), (0, .ref (sc)), (1, .ref (ra)), (2, .ref (Ad 0)), (3, .ref (oa)), (4, .int (nI i))] dL_law_913 (by decide) rfl ?_
  refine z_aload_n C dL_law_915 4 rfl ?_
  refine z_callV C (mX6_thrown l D κ Ad eo ip (upN w 1 1) σ aw (hiF h) (hiF s2) ot) gL_law_X6_thrown rfl rfl rfl hdX6_thrown ⟨(Nat.le_of_ble_eq_true rfl), (Nat.le_of_ble_eq_true rfl)⟩ 0 rfl rfl _ (fun _ => OUTW κ oa fo ++ (MW κ Ad eo ip (upN w 1 1) σ aw (hiF h) (hiF s2) ot ++ (SW κ (AA 0) g ++ (RC ra (AA 0 0) (AA 1 0) (AA 2 0) la lb (AA 6 0) (AA 5 0) ++ (SW κ (AA 1) f ++ (HO κ (AA 2) hf nx ct ++ (hW κ Hs gh 10 ++ (SW κ (AA 3) g1 ++ (SO la (AA 3 0) f1 ++ (SW κ (AA 4) g2 ++ (SO lb (AA 4 0) f2 ++ (OW κ (AA 5) no ot ++ (SW κ (AA 7) gp ++ PW κ (AA 6) (AA 7) eo v tx))))))))))))) pmM (fun _ => pmM.symm) rfl (Nat.le_of_ble_eq_true rfl) dL_law_916 ⟨by show _ ≤ 601024; omega, by show _ ≤ 7293034; omega⟩ (fun _ _ => ?_)
  refine z_iload C dL_law_919 1 rfl ?_
  refine z_icmpE C 926 rfl dL_law_921 (by decide) ?_
  refine z_iload C dL_law_926 1 rfl ?_
  refine z_if_ne C 943 dL_law_928 (by decide) (fun _ => ?_) (fun q => absurd q (by decide))
  refine z_goto (tgt := 2685) C dL_law_943 (by decide) ?_
  refine z_lv [2, 3, 4, 5, 6] rfl ?_
  exact K fo g f g1 g2 gp gh nx ct f1 f2 no ot eo v tx ip (upN w 1 1) σ aw h s2 (cells + 1) (slots + 6) (by omega) (by omega) ((H.mono (by omega) (by omega)).w1 _)
set_option maxRecDepth 100000 in
set_option maxHeartbeats 8000000 in
theorem lc_14_ok (C : zC p s m args c cL_law 9 wsL_law RL D (zTy κ) A) (hXc : aX adK adV A s s.heap) (hls : l.stackTraces = false) (hX : va_X sc L xs s s.heap) (hb0 : sc < s.heap.size) (hA0 : ¬ A sc) (hhf : ∀ j, j < 10 → hf j = some (Hs j 0)) (hi6 : i + 6 ≤ L) (hL : L ≤ 3072) (hcr : cells + 1 ≤ 601024 ∧ slots + 6 ≤ 7293034) (H : LI M g g1 g2 gh nx ct f1 f2 no v tx ip w σ h s2) (hM1 : 700000 ≤ M) (hM : M ≤ 1400000) (K : LGO p l e s m args below meth c D A Q sc κ ra la lb oa Ad AA Hs hf 2685 (M + 1200) i (cells + 1) (slots + 6)) (b : Nat) (hb : b < σ 1) (hx19 : xs (i + 1) = nI b) : zW p l e RML s m args below meth c 9 D A cells slots Q (LAWW κ ra la lb oa Ad AA Hs hf fo g f g1 g2 gp gh nx ct f1 f2 no ot eo v tx ip w σ aw h s2) [(0, .ref (sc)), (1, .ref (ra)), (2, .ref (Ad 0)), (3, .ref (oa)), (4, .int (nI i))] 946 [] := by
  obtain ⟨hr, hv, ht0⟩ := id H.1
  obtain ⟨hnx, hct, h5, -⟩ := id H.2.1
  obtain ⟨q1, q2, h7, -, -⟩ := id H.2.2.1
  obtain ⟨v1, hw9, v2, ht⟩ := id H.2.2.2.1
  obtain ⟨hno, hn64⟩ := id H.2.2.2.2
  have n1 := hv.n1
  have n2 := hv.n2
  refine z_aload_n C dL_law_946 1 rfl ?_
  refine z_aload_n C dL_law_947 0 rfl ?_
  refine z_iload C dL_law_948 4 rfl ?_
  refine z_iconst (v := nI 1) C dL_law_950 (by decide) ?_
  refine zn_iadd C dL_law_951 ?_
  refine z_sld C hX hb0 hA0 (i := i + 1) (by omega) (by omega) hx19 dL_law_952 ?_
  refine z_aload_n C dL_law_953 3 rfl ?_
  refine zh_callS C (aX_ok adK adV) hXc (mL_obstacle_ok l D κ (AA 0) g ra (AA 1 0) (AA 2 0) la lb (AA 6 0) (AA 5 0) σ M b hr hv hb adK adV oa fo) gL_law_L_obstacle rfl rfl rfl hdL_obstacle ⟨(Nat.le_of_ble_eq_true rfl), (Nat.le_of_ble_eq_true rfl)⟩ _ (fun u1 => OUTW κ oa (vp_updL fo 0 (((nI (rsn σ b))).toInt64)) ++ (MW κ Ad eo ip w σ aw (hiF h) (hiF s2) ot ++ (SW κ (AA 0) g ++ (RC ra (AA 0 0) (AA 1 0) (AA 2 0) la lb (AA 6 0) (AA 5 0) ++ (SW κ (AA 1) f ++ (HO κ (AA 2) hf nx ct ++ (hW κ Hs gh 10 ++ (SW κ (AA 3) g1 ++ (SO la (AA 3 0) f1 ++ (SW κ (AA 4) g2 ++ (SO lb (AA 4 0) f2 ++ (OW κ (AA 5) no ot ++ (SW κ (AA 7) gp ++ PW κ (AA 6) (AA 7) eo v tx))))))))))))) pmH_S (fun u1 => pmH_S.symm) rfl (Nat.le_of_ble_eq_true rfl) dL_law_954 ⟨by show _ ≤ 601024; omega, by show _ ≤ 7293034; omega⟩ (fun u1 hu1 => ?_)
  refine z_istore C [(5, .int (nI 0)), (0, .ref (sc)), (1, .ref (ra)), (2, .ref (Ad 0)), (3, .ref (oa)), (4, .int (nI i))] dL_law_957 (by decide) rfl ?_
  refine z_aload_n C dL_law_959 3 rfl ?_
  refine z_aload_n C dL_law_960 1 rfl ?_
  refine z_iload C dL_law_961 5 rfl ?_
  refine z_iconst (v := nI 1) C dL_law_963 (by decide) ?_
  refine zn_iadd C dL_law_964 ?_
  refine z_sld C hX hb0 hA0 (i := i + 1) (by omega) (by omega) hx19 dL_law_965 ?_
  refine z_callV C (mX6_obstacle_ok l D κ Ad eo ip w σ aw (hiF h) (hiF s2) ot M b hv.1 (by first | assumption | omega)) gL_law_X6_obstacle rfl rfl rfl hdX6_obstacle ⟨(Nat.le_of_ble_eq_true rfl), (Nat.le_of_ble_eq_true rfl)⟩ 0 rfl rfl _ (fun u2 => OUTW κ oa (vp_updL fo 0 (((nI (rsn σ b))).toInt64)) ++ (MW κ Ad eo ip (upN w 1 0) σ aw (hiF h) (hiF s2) ot ++ (SW κ (AA 0) g ++ (RC ra (AA 0 0) (AA 1 0) (AA 2 0) la lb (AA 6 0) (AA 5 0) ++ (SW κ (AA 1) f ++ (HO κ (AA 2) hf nx ct ++ (hW κ Hs gh 10 ++ (SW κ (AA 3) g1 ++ (SO la (AA 3 0) f1 ++ (SW κ (AA 4) g2 ++ (SO lb (AA 4 0) f2 ++ (OW κ (AA 5) no ot ++ (SW κ (AA 7) gp ++ PW κ (AA 6) (AA 7) eo v tx))))))))))))) pmM (fun u2 => pmM.symm) rfl (Nat.le_of_ble_eq_true rfl) dL_law_966 ⟨by show _ ≤ 601024; omega, by show _ ≤ 7293034; omega⟩ (fun u2 hu2 => ?_)
  refine z_istore C [(6, .int ((nI (rsn σ b)))), (5, .int (nI 0)), (0, .ref (sc)), (1, .ref (ra)), (2, .ref (Ad 0)), (3, .ref (oa)), (4, .int (nI i))] dL_law_969 (by decide) rfl ?_
  refine z_aload_n C dL_law_971 4 rfl ?_
  refine z_callV C (mX6_thrown l D κ Ad eo ip (upN w 1 0) σ aw (hiF h) (hiF s2) ot) gL_law_X6_thrown rfl rfl rfl hdX6_thrown ⟨(Nat.le_of_ble_eq_true rfl), (Nat.le_of_ble_eq_true rfl)⟩ 0 rfl rfl _ (fun _ => OUTW κ oa (vp_updL fo 0 (((nI (rsn σ b))).toInt64)) ++ (MW κ Ad eo ip (upN w 1 0) σ aw (hiF h) (hiF s2) ot ++ (SW κ (AA 0) g ++ (RC ra (AA 0 0) (AA 1 0) (AA 2 0) la lb (AA 6 0) (AA 5 0) ++ (SW κ (AA 1) f ++ (HO κ (AA 2) hf nx ct ++ (hW κ Hs gh 10 ++ (SW κ (AA 3) g1 ++ (SO la (AA 3 0) f1 ++ (SW κ (AA 4) g2 ++ (SO lb (AA 4 0) f2 ++ (OW κ (AA 5) no ot ++ (SW κ (AA 7) gp ++ PW κ (AA 6) (AA 7) eo v tx))))))))))))) pmM (fun _ => pmM.symm) rfl (Nat.le_of_ble_eq_true rfl) dL_law_972 ⟨by show _ ≤ 601024; omega, by show _ ≤ 7293034; omega⟩ (fun _ _ => ?_)
  refine z_iload C dL_law_975 1 rfl ?_
  refine z_icmpE C 982 rfl dL_law_977 (by decide) ?_
  refine z_iload C dL_law_982 1 rfl ?_
  refine z_if_ne C 999 dL_law_984 (by decide) (fun q => absurd (by decide) q) (fun _ => ?_)
  refine z_aload_n C dL_law_987 5 rfl ?_
  refine z_iconst (v := nI 0) C dL_law_988 (by decide) ?_
  refine z_lald C 0 4 rfl rfl (i := 0) (by decide) (by decide) dL_law_989 ?_
  refine z_iload C dL_law_990 0 rfl ?_
  refine z_i2l C dL_law_992 rfl ?_
  refine z_lcmpE C (updL_0) dL_law_993 ?_
  refine z_if_eq C 999 dL_law_994 (by decide) (fun _ => ?_) (fun q => absurd (by decide) q)
  refine z_goto (tgt := 2685) C dL_law_999 (by decide) ?_
  refine z_lv [2, 3, 4, 5, 6] rfl ?_
  exact K (vp_updL fo 0 (((nI (rsn σ b))).toInt64)) g f g1 g2 gp gh nx ct f1 f2 no ot eo v tx ip (upN w 1 0) σ aw h s2 cells slots (by omega) (by omega) ((H.mono (by omega) (by omega)).w1 _)
set_option maxRecDepth 100000 in
set_option maxHeartbeats 8000000 in
theorem lc_14_no (C : zC p s m args c cL_law 9 wsL_law RL D (zTy κ) A) (hXc : aX adK adV A s s.heap) (hls : l.stackTraces = false) (hX : va_X sc L xs s s.heap) (hb0 : sc < s.heap.size) (hA0 : ¬ A sc) (hhf : ∀ j, j < 10 → hf j = some (Hs j 0)) (hi6 : i + 6 ≤ L) (hL : L ≤ 3072) (hcr : cells + 1 ≤ 601024 ∧ slots + 6 ≤ 7293034) (H : LI M g g1 g2 gh nx ct f1 f2 no v tx ip w σ h s2) (hM1 : 700000 ≤ M) (hM : M ≤ 1400000) (K : LGO p l e s m args below meth c D A Q sc κ ra la lb oa Ad AA Hs hf 2685 (M + 1200) i (cells + 1) (slots + 6)) (x : Int32) (hx : isB (σ 1) x = false) (hx19 : xs (i + 1) = x) : zW p l e RML s m args below meth c 9 D A cells slots Q (LAWW κ ra la lb oa Ad AA Hs hf fo g f g1 g2 gp gh nx ct f1 f2 no ot eo v tx ip w σ aw h s2) [(0, .ref (sc)), (1, .ref (ra)), (2, .ref (Ad 0)), (3, .ref (oa)), (4, .int (nI i))] 946 [] := by
  obtain ⟨hr, hv, ht0⟩ := id H.1
  obtain ⟨hnx, hct, h5, -⟩ := id H.2.1
  obtain ⟨q1, q2, h7, -, -⟩ := id H.2.2.1
  obtain ⟨v1, hw9, v2, ht⟩ := id H.2.2.2.1
  obtain ⟨hno, hn64⟩ := id H.2.2.2.2
  have n1 := hv.n1
  have n2 := hv.n2
  refine z_aload_n C dL_law_946 1 rfl ?_
  refine z_aload_n C dL_law_947 0 rfl ?_
  refine z_iload C dL_law_948 4 rfl ?_
  refine z_iconst (v := nI 1) C dL_law_950 (by decide) ?_
  refine zn_iadd C dL_law_951 ?_
  refine z_sld C hX hb0 hA0 (i := i + 1) (by omega) (by omega) hx19 dL_law_952 ?_
  refine z_aload_n C dL_law_953 3 rfl ?_
  refine zh_callS C (aX_ok adK adV) hXc (mL_obstacle_no l D κ adK adV (AA 0) g ra (AA 1 0) (AA 2 0) la lb (AA 6 0) (AA 5 0) σ M x hls hr hv hx oa fo) gL_law_L_obstacle rfl rfl rfl hdL_obstacle ⟨(Nat.le_of_ble_eq_true rfl), (Nat.le_of_ble_eq_true rfl)⟩ _ (fun u1 => OUTW κ oa fo ++ (MW κ Ad eo ip w σ aw (hiF h) (hiF s2) ot ++ (SW κ (AA 0) g ++ (RC ra (AA 0 0) (AA 1 0) (AA 2 0) la lb (AA 6 0) (AA 5 0) ++ (SW κ (AA 1) f ++ (HO κ (AA 2) hf nx ct ++ (hW κ Hs gh 10 ++ (SW κ (AA 3) g1 ++ (SO la (AA 3 0) f1 ++ (SW κ (AA 4) g2 ++ (SO lb (AA 4 0) f2 ++ (OW κ (AA 5) no ot ++ (SW κ (AA 7) gp ++ PW κ (AA 6) (AA 7) eo v tx))))))))))))) pmH_S (fun u1 => pmH_S.symm) rfl (Nat.le_of_ble_eq_true rfl) dL_law_954 ⟨by show _ ≤ 601024; omega, by show _ ≤ 7293034; omega⟩ (fun u1 hu1 => ?_)
  refine z_istore C [(5, .int (nI 1)), (0, .ref (sc)), (1, .ref (ra)), (2, .ref (Ad 0)), (3, .ref (oa)), (4, .int (nI i))] dL_law_957 (by decide) rfl ?_
  refine z_aload_n C dL_law_959 3 rfl ?_
  refine z_aload_n C dL_law_960 1 rfl ?_
  refine z_iload C dL_law_961 5 rfl ?_
  refine z_iconst (v := nI 1) C dL_law_963 (by decide) ?_
  refine zn_iadd C dL_law_964 ?_
  refine z_sld C hX hb0 hA0 (i := i + 1) (by omega) (by omega) hx19 dL_law_965 ?_
  refine z_callV C (mX6_obstacle_no l D κ Ad eo ip w σ aw (hiF h) (hiF s2) ot M x hv.1 hx) gL_law_X6_obstacle rfl rfl rfl hdX6_obstacle ⟨(Nat.le_of_ble_eq_true rfl), (Nat.le_of_ble_eq_true rfl)⟩ 0 rfl rfl _ (fun u2 => OUTW κ oa fo ++ (MW κ Ad eo ip (upN w 1 1) σ aw (hiF h) (hiF s2) ot ++ (SW κ (AA 0) g ++ (RC ra (AA 0 0) (AA 1 0) (AA 2 0) la lb (AA 6 0) (AA 5 0) ++ (SW κ (AA 1) f ++ (HO κ (AA 2) hf nx ct ++ (hW κ Hs gh 10 ++ (SW κ (AA 3) g1 ++ (SO la (AA 3 0) f1 ++ (SW κ (AA 4) g2 ++ (SO lb (AA 4 0) f2 ++ (OW κ (AA 5) no ot ++ (SW κ (AA 7) gp ++ PW κ (AA 6) (AA 7) eo v tx))))))))))))) pmM (fun u2 => pmM.symm) rfl (Nat.le_of_ble_eq_true rfl) dL_law_966 ⟨by show _ ≤ 601024; omega, by show _ ≤ 7293034; omega⟩ (fun u2 hu2 => ?_)
  refine z_istore C [(6, .int ((nI 0))), (5, .int (nI 1)), (0, .ref (sc)), (1, .ref (ra)), (2, .ref (Ad 0)), (3, .ref (oa)), (4, .int (nI i))] dL_law_969 (by decide) rfl ?_
  refine z_aload_n C dL_law_971 4 rfl ?_
  refine z_callV C (mX6_thrown l D κ Ad eo ip (upN w 1 1) σ aw (hiF h) (hiF s2) ot) gL_law_X6_thrown rfl rfl rfl hdX6_thrown ⟨(Nat.le_of_ble_eq_true rfl), (Nat.le_of_ble_eq_true rfl)⟩ 0 rfl rfl _ (fun _ => OUTW κ oa fo ++ (MW κ Ad eo ip (upN w 1 1) σ aw (hiF h) (hiF s2) ot ++ (SW κ (AA 0) g ++ (RC ra (AA 0 0) (AA 1 0) (AA 2 0) la lb (AA 6 0) (AA 5 0) ++ (SW κ (AA 1) f ++ (HO κ (AA 2) hf nx ct ++ (hW κ Hs gh 10 ++ (SW κ (AA 3) g1 ++ (SO la (AA 3 0) f1 ++ (SW κ (AA 4) g2 ++ (SO lb (AA 4 0) f2 ++ (OW κ (AA 5) no ot ++ (SW κ (AA 7) gp ++ PW κ (AA 6) (AA 7) eo v tx))))))))))))) pmM (fun _ => pmM.symm) rfl (Nat.le_of_ble_eq_true rfl) dL_law_972 ⟨by show _ ≤ 601024; omega, by show _ ≤ 7293034; omega⟩ (fun _ _ => ?_)
  refine z_iload C dL_law_975 1 rfl ?_
  refine z_icmpE C 982 rfl dL_law_977 (by decide) ?_
  refine z_iload C dL_law_982 1 rfl ?_
  refine z_if_ne C 999 dL_law_984 (by decide) (fun _ => ?_) (fun q => absurd q (by decide))
  refine z_goto (tgt := 2685) C dL_law_999 (by decide) ?_
  refine z_lv [2, 3, 4, 5, 6] rfl ?_
  exact K fo g f g1 g2 gp gh nx ct f1 f2 no ot eo v tx ip (upN w 1 1) σ aw h s2 (cells + 1) (slots + 6) (by omega) (by omega) ((H.mono (by omega) (by omega)).w1 _)
set_option maxRecDepth 100000 in
set_option maxHeartbeats 8000000 in
theorem lc_15 (C : zC p s m args c cL_law 9 wsL_law RL D (zTy κ) A) (hXc : aX adK adV A s s.heap) (hls : l.stackTraces = false) (hX : va_X sc L xs s s.heap) (hb0 : sc < s.heap.size) (hA0 : ¬ A sc) (hhf : ∀ j, j < 10 → hf j = some (Hs j 0)) (hi6 : i + 6 ≤ L) (hL : L ≤ 3072) (hcr : cells + 1 ≤ 601024 ∧ slots + 6 ≤ 7293034) (H : LI M g g1 g2 gh nx ct f1 f2 no v tx ip w σ h s2) (hM1 : 700000 ≤ M) (hM : M ≤ 1400000) (K : LGO p l e s m args below meth c D A Q sc κ ra la lb oa Ad AA Hs hf 2685 (M + 1200) i (cells + 1) (slots + 6))   : zW p l e RML s m args below meth c 9 D A cells slots Q (LAWW κ ra la lb oa Ad AA Hs hf fo g f g1 g2 gp gh nx ct f1 f2 no ot eo v tx ip w σ aw h s2) [(0, .ref (sc)), (1, .ref (ra)), (2, .ref (Ad 0)), (3, .ref (oa)), (4, .int (nI i))] 1002 [] := by
  obtain ⟨hr, hv, ht0⟩ := id H.1
  obtain ⟨hnx, hct, h5, -⟩ := id H.2.1
  obtain ⟨q1, q2, h7, -, -⟩ := id H.2.2.1
  obtain ⟨v1, hw9, v2, ht⟩ := id H.2.2.2.1
  obtain ⟨hno, hn64⟩ := id H.2.2.2.2
  have n1 := hv.n1
  have n2 := hv.n2
  refine z_aload_n C dL_law_1002 1 rfl ?_
  refine z_callV C (mX5_freeLevers l D κ (AA 0) g ra (AA 1 0) (AA 2 0) la lb (AA 6 0) (AA 5 0) σ M hr hv) gL_law_X5_freeLevers rfl rfl rfl hdX5_freeLevers ⟨(Nat.le_of_ble_eq_true rfl), (Nat.le_of_ble_eq_true rfl)⟩ 13 rfl rfl _ (fun u1 => OUTW κ oa fo ++ (MW κ Ad eo ip w σ aw (hiF h) (hiF s2) ot ++ (SW κ (AA 0) g ++ (RC ra (AA 0 0) (AA 1 0) (AA 2 0) la lb (AA 6 0) (AA 5 0) ++ (SW κ (AA 1) f ++ (HO κ (AA 2) hf nx ct ++ (hW κ Hs gh 10 ++ (SW κ (AA 3) g1 ++ (SO la (AA 3 0) f1 ++ (SW κ (AA 4) g2 ++ (SO lb (AA 4 0) f2 ++ (OW κ (AA 5) no ot ++ (SW κ (AA 7) gp ++ PW κ (AA 6) (AA 7) eo v tx))))))))))))) pmX_S (fun u1 => pmX_S.symm) rfl (Nat.le_of_ble_eq_true rfl) dL_law_1003 ⟨by show _ ≤ 601024; omega, by show _ ≤ 7293034; omega⟩ (fun u1 hu1 => ?_)
  refine z_aload_n C dL_law_1006 2 rfl ?_
  refine z_callV C (mX6_freeLevers l D κ Ad eo ip w σ aw (hiF h) (hiF s2) ot M hv.1) gL_law_X6_freeLevers rfl rfl rfl hdX6_freeLevers ⟨(Nat.le_of_ble_eq_true rfl), (Nat.le_of_ble_eq_true rfl)⟩ 0 rfl rfl _ (fun u2 => OUTW κ oa fo ++ (MW κ Ad eo ip (upN w 1 0) σ aw (hiF h) (hiF s2) ot ++ (SW κ (AA 0) g ++ (RC ra (AA 0 0) (AA 1 0) (AA 2 0) la lb (AA 6 0) (AA 5 0) ++ (SW κ (AA 1) f ++ (HO κ (AA 2) hf nx ct ++ (hW κ Hs gh 10 ++ (SW κ (AA 3) g1 ++ (SO la (AA 3 0) f1 ++ (SW κ (AA 4) g2 ++ (SO lb (AA 4 0) f2 ++ (OW κ (AA 5) no ot ++ (SW κ (AA 7) gp ++ PW κ (AA 6) (AA 7) eo v tx))))))))))))) pmM (fun u2 => pmM.symm) rfl (Nat.le_of_ble_eq_true rfl) dL_law_1007 ⟨by show _ ≤ 601024; omega, by show _ ≤ 7293034; omega⟩ (fun u2 hu2 => ?_)
  refine z_icmpE C 2685 rfl dL_law_1010 (by decide) ?_
  refine z_lv [0, 1, 2, 3, 4] rfl ?_
  exact K fo g f g1 g2 gp gh nx ct f1 f2 no ot eo v tx ip (upN w 1 0) σ aw h s2 cells slots (by omega) (by omega) ((H.mono (by omega) (by omega)).w1 _)
set_option maxRecDepth 100000 in
set_option maxHeartbeats 8000000 in
theorem lc_16 (C : zC p s m args c cL_law 9 wsL_law RL D (zTy κ) A) (hXc : aX adK adV A s s.heap) (hls : l.stackTraces = false) (hX : va_X sc L xs s s.heap) (hb0 : sc < s.heap.size) (hA0 : ¬ A sc) (hhf : ∀ j, j < 10 → hf j = some (Hs j 0)) (hi6 : i + 6 ≤ L) (hL : L ≤ 3072) (hcr : cells + 1 ≤ 601024 ∧ slots + 6 ≤ 7293034) (H : LI M g g1 g2 gh nx ct f1 f2 no v tx ip w σ h s2) (hM1 : 700000 ≤ M) (hM : M ≤ 1400000) (K : LGO p l e s m args below meth c D A Q sc κ ra la lb oa Ad AA Hs hf 2685 (M + 1200) i (cells + 1) (slots + 6))   : zW p l e RML s m args below meth c 9 D A cells slots Q (LAWW κ ra la lb oa Ad AA Hs hf fo g f g1 g2 gp gh nx ct f1 f2 no ot eo v tx ip w σ aw h s2) [(0, .ref (sc)), (1, .ref (ra)), (2, .ref (Ad 0)), (3, .ref (oa)), (4, .int (nI i))] 1015 [] := by
  obtain ⟨hr, hv, ht0⟩ := id H.1
  obtain ⟨hnx, hct, h5, -⟩ := id H.2.1
  obtain ⟨q1, q2, h7, -, -⟩ := id H.2.2.1
  obtain ⟨v1, hw9, v2, ht⟩ := id H.2.2.2.1
  obtain ⟨hno, hn64⟩ := id H.2.2.2.2
  have n1 := hv.n1
  have n2 := hv.n2
  refine z_aload_n C dL_law_1015 1 rfl ?_
  refine z_callV C (mX5_emptyBlocks l D κ (AA 0) g ra (AA 1 0) (AA 2 0) la lb (AA 6 0) (AA 5 0) σ M hr hv) gL_law_X5_emptyBlocks rfl rfl rfl hdX5_emptyBlocks ⟨(Nat.le_of_ble_eq_true rfl), (Nat.le_of_ble_eq_true rfl)⟩ 13 rfl rfl _ (fun u1 => OUTW κ oa fo ++ (MW κ Ad eo ip w σ aw (hiF h) (hiF s2) ot ++ (SW κ (AA 0) g ++ (RC ra (AA 0 0) (AA 1 0) (AA 2 0) la lb (AA 6 0) (AA 5 0) ++ (SW κ (AA 1) f ++ (HO κ (AA 2) hf nx ct ++ (hW κ Hs gh 10 ++ (SW κ (AA 3) g1 ++ (SO la (AA 3 0) f1 ++ (SW κ (AA 4) g2 ++ (SO lb (AA 4 0) f2 ++ (OW κ (AA 5) no ot ++ (SW κ (AA 7) gp ++ PW κ (AA 6) (AA 7) eo v tx))))))))))))) pmX_S (fun u1 => pmX_S.symm) rfl (Nat.le_of_ble_eq_true rfl) dL_law_1016 ⟨by show _ ≤ 601024; omega, by show _ ≤ 7293034; omega⟩ (fun u1 hu1 => ?_)
  refine z_aload_n C dL_law_1019 2 rfl ?_
  refine z_callV C (mX6_emptyBlocks l D κ Ad eo ip w σ aw (hiF h) (hiF s2) ot M hv.1) gL_law_X6_emptyBlocks rfl rfl rfl hdX6_emptyBlocks ⟨(Nat.le_of_ble_eq_true rfl), (Nat.le_of_ble_eq_true rfl)⟩ 0 rfl rfl _ (fun u2 => OUTW κ oa fo ++ (MW κ Ad eo ip (upN w 1 0) σ aw (hiF h) (hiF s2) ot ++ (SW κ (AA 0) g ++ (RC ra (AA 0 0) (AA 1 0) (AA 2 0) la lb (AA 6 0) (AA 5 0) ++ (SW κ (AA 1) f ++ (HO κ (AA 2) hf nx ct ++ (hW κ Hs gh 10 ++ (SW κ (AA 3) g1 ++ (SO la (AA 3 0) f1 ++ (SW κ (AA 4) g2 ++ (SO lb (AA 4 0) f2 ++ (OW κ (AA 5) no ot ++ (SW κ (AA 7) gp ++ PW κ (AA 6) (AA 7) eo v tx))))))))))))) pmM (fun u2 => pmM.symm) rfl (Nat.le_of_ble_eq_true rfl) dL_law_1020 ⟨by show _ ≤ 601024; omega, by show _ ≤ 7293034; omega⟩ (fun u2 hu2 => ?_)
  refine z_icmpE C 2685 rfl dL_law_1023 (by decide) ?_
  refine z_lv [0, 1, 2, 3, 4] rfl ?_
  exact K fo g f g1 g2 gp gh nx ct f1 f2 no ot eo v tx ip (upN w 1 0) σ aw h s2 cells slots (by omega) (by omega) ((H.mono (by omega) (by omega)).w1 _)
set_option maxRecDepth 100000 in
set_option maxHeartbeats 8000000 in
theorem lc_17 (C : zC p s m args c cL_law 9 wsL_law RL D (zTy κ) A) (hXc : aX adK adV A s s.heap) (hls : l.stackTraces = false) (hX : va_X sc L xs s s.heap) (hb0 : sc < s.heap.size) (hA0 : ¬ A sc) (hhf : ∀ j, j < 10 → hf j = some (Hs j 0)) (hi6 : i + 6 ≤ L) (hL : L ≤ 3072) (hcr : cells + 1 ≤ 601024 ∧ slots + 6 ≤ 7293034) (H : LI M g g1 g2 gh nx ct f1 f2 no v tx ip w σ h s2) (hM1 : 700000 ≤ M) (hM : M ≤ 1400000) (K : LGO p l e s m args below meth c D A Q sc κ ra la lb oa Ad AA Hs hf 2685 (M + 1200) i (cells + 1) (slots + 6))   : zW p l e RML s m args below meth c 9 D A cells slots Q (LAWW κ ra la lb oa Ad AA Hs hf fo g f g1 g2 gp gh nx ct f1 f2 no ot eo v tx ip w σ aw h s2) [(0, .ref (sc)), (1, .ref (ra)), (2, .ref (Ad 0)), (3, .ref (oa)), (4, .int (nI i))] 1028 [] := by
  obtain ⟨hr, hv, ht0⟩ := id H.1
  obtain ⟨hnx, hct, h5, -⟩ := id H.2.1
  obtain ⟨q1, q2, h7, -, -⟩ := id H.2.2.1
  obtain ⟨v1, hw9, v2, ht⟩ := id H.2.2.2.1
  obtain ⟨hno, hn64⟩ := id H.2.2.2.2
  have n1 := hv.n1
  have n2 := hv.n2
  refine z_aload_n C dL_law_1028 1 rfl ?_
  refine z_callV C (mX5_deepestBlock l D κ (AA 0) g ra (AA 1 0) (AA 2 0) la lb (AA 6 0) (AA 5 0) σ M hr hv) gL_law_X5_deepestBlock rfl rfl rfl hdX5_deepestBlock ⟨(Nat.le_of_ble_eq_true rfl), (Nat.le_of_ble_eq_true rfl)⟩ 13 rfl rfl _ (fun u1 => OUTW κ oa fo ++ (MW κ Ad eo ip w σ aw (hiF h) (hiF s2) ot ++ (SW κ (AA 0) g ++ (RC ra (AA 0 0) (AA 1 0) (AA 2 0) la lb (AA 6 0) (AA 5 0) ++ (SW κ (AA 1) f ++ (HO κ (AA 2) hf nx ct ++ (hW κ Hs gh 10 ++ (SW κ (AA 3) g1 ++ (SO la (AA 3 0) f1 ++ (SW κ (AA 4) g2 ++ (SO lb (AA 4 0) f2 ++ (OW κ (AA 5) no ot ++ (SW κ (AA 7) gp ++ PW κ (AA 6) (AA 7) eo v tx))))))))))))) pmX_S (fun u1 => pmX_S.symm) rfl (Nat.le_of_ble_eq_true rfl) dL_law_1029 ⟨by show _ ≤ 601024; omega, by show _ ≤ 7293034; omega⟩ (fun u1 hu1 => ?_)
  refine z_aload_n C dL_law_1032 2 rfl ?_
  refine z_callV C (mX6_deepestBlock l D κ Ad eo ip w σ aw (hiF h) (hiF s2) ot M hv.1) gL_law_X6_deepestBlock rfl rfl rfl hdX6_deepestBlock ⟨(Nat.le_of_ble_eq_true rfl), (Nat.le_of_ble_eq_true rfl)⟩ 0 rfl rfl _ (fun u2 => OUTW κ oa fo ++ (MW κ Ad eo ip (upN w 1 0) σ aw (hiF h) (hiF s2) ot ++ (SW κ (AA 0) g ++ (RC ra (AA 0 0) (AA 1 0) (AA 2 0) la lb (AA 6 0) (AA 5 0) ++ (SW κ (AA 1) f ++ (HO κ (AA 2) hf nx ct ++ (hW κ Hs gh 10 ++ (SW κ (AA 3) g1 ++ (SO la (AA 3 0) f1 ++ (SW κ (AA 4) g2 ++ (SO lb (AA 4 0) f2 ++ (OW κ (AA 5) no ot ++ (SW κ (AA 7) gp ++ PW κ (AA 6) (AA 7) eo v tx))))))))))))) pmM (fun u2 => pmM.symm) rfl (Nat.le_of_ble_eq_true rfl) dL_law_1033 ⟨by show _ ≤ 601024; omega, by show _ ≤ 7293034; omega⟩ (fun u2 hu2 => ?_)
  refine z_icmpE C 2685 rfl dL_law_1036 (by decide) ?_
  refine z_lv [0, 1, 2, 3, 4] rfl ?_
  exact K fo g f g1 g2 gp gh nx ct f1 f2 no ot eo v tx ip (upN w 1 0) σ aw h s2 cells slots (by omega) (by omega) ((H.mono (by omega) (by omega)).w1 _)
end LC
