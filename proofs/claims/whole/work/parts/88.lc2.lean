section LC
variable {p : Program} {l : Launch} {e : Env} {s : State} {m : MethodId} {args : Array Value} {below : List Frame} {meth : Method} {c : Code} {D : va_G} {A : Nat → Prop} {cells slots : Nat} {Q : State → Prop} {sc L : Nat} {xs : Nat → Int32} {κ : Nat → ClassId} {adK adV : Nat → Nat} {ra la lb oa : Nat} {Ad : Nat → Nat} {AA : Nat → Nat → Nat} {Hs : Nat → Nat → Nat} {hf : Nat → Option Nat} {fo : Nat → Int64} {g f g1 g2 gp : Nat → Nat → Nat} {gh : Nat → Nat → Nat → Nat} {nx ct f1 f2 no : Nat} {ot : Nat → Nat} {eo : Int32} {v : Nat → Nat} {tx ip : Nat → Int32} {w σ aw : Nat → Nat} {h s2 : Nat → Nat → Nat} {M i : Nat}
set_option maxRecDepth 100000 in
set_option maxHeartbeats 8000000 in
theorem lc_18 (C : zC p s m args c cL_law 9 wsL_law RL D (zTy κ) A) (hXc : aX adK adV A s s.heap) (hls : l.stackTraces = false) (hX : va_X sc L xs s s.heap) (hb0 : sc < s.heap.size) (hA0 : ¬ A sc) (hhf : ∀ j, j < 10 → hf j = some (Hs j 0)) (hi6 : i + 6 ≤ L) (hL : L ≤ 3072) (hcr : cells + 1 ≤ 601024 ∧ slots + 6 ≤ 7293034) (H : LI M g g1 g2 gh nx ct f1 f2 no v tx ip w σ h s2) (hM1 : 700000 ≤ M) (hM : M ≤ 1400000) (K : LGO p l e s m args below meth c D A Q sc κ ra la lb oa Ad AA Hs hf 2685 (M + 1200) i (cells + 1) (slots + 6))   : zW p l e RML s m args below meth c 9 D A cells slots Q (LAWW κ ra la lb oa Ad AA Hs hf fo g f g1 g2 gp gh nx ct f1 f2 no ot eo v tx ip w σ aw h s2) [(0, .ref (sc)), (1, .ref (ra)), (2, .ref (Ad 0)), (3, .ref (oa)), (4, .int (nI i))] 1041 [] := by
  obtain ⟨hr, hv, ht0⟩ := id H.1
  obtain ⟨hnx, hct, h5, -⟩ := id H.2.1
  obtain ⟨q1, q2, h7, -, -⟩ := id H.2.2.1
  obtain ⟨v1, hw9, v2, ht⟩ := id H.2.2.2.1
  obtain ⟨hno, hn64⟩ := id H.2.2.2.2
  have n1 := hv.n1
  have n2 := hv.n2
  refine z_aload_n C dL_law_1041 1 rfl ?_
  refine z_callV C (mX5_differentDepths l D κ (AA 0) g ra (AA 1 0) (AA 2 0) la lb (AA 6 0) (AA 5 0) σ M hr hv) gL_law_X5_differentDepths rfl rfl rfl hdX5_differentDepths ⟨(Nat.le_of_ble_eq_true rfl), (Nat.le_of_ble_eq_true rfl)⟩ 13 rfl rfl _ (fun u1 => OUTW κ oa fo ++ (MW κ Ad eo ip w σ aw (hiF h) (hiF s2) ot ++ (SW κ (AA 0) g ++ (RC ra (AA 0 0) (AA 1 0) (AA 2 0) la lb (AA 6 0) (AA 5 0) ++ (SW κ (AA 1) f ++ (HO κ (AA 2) hf nx ct ++ (hW κ Hs gh 10 ++ (SW κ (AA 3) g1 ++ (SO la (AA 3 0) f1 ++ (SW κ (AA 4) g2 ++ (SO lb (AA 4 0) f2 ++ (OW κ (AA 5) no ot ++ (SW κ (AA 7) gp ++ PW κ (AA 6) (AA 7) eo v tx))))))))))))) pmX_S (fun u1 => pmX_S.symm) rfl (Nat.le_of_ble_eq_true rfl) dL_law_1042 ⟨by show _ ≤ 601024; omega, by show _ ≤ 7293034; omega⟩ (fun u1 hu1 => ?_)
  refine z_aload_n C dL_law_1045 2 rfl ?_
  refine z_callV C (mX6_differentDepths l D κ Ad eo ip w σ aw (hiF h) (hiF s2) ot M hv.1) gL_law_X6_differentDepths rfl rfl rfl hdX6_differentDepths ⟨(Nat.le_of_ble_eq_true rfl), (Nat.le_of_ble_eq_true rfl)⟩ 0 rfl rfl _ (fun u2 => OUTW κ oa fo ++ (MW κ Ad eo ip (upN w 1 0) σ aw (hiF h) (hiF s2) ot ++ (SW κ (AA 0) g ++ (RC ra (AA 0 0) (AA 1 0) (AA 2 0) la lb (AA 6 0) (AA 5 0) ++ (SW κ (AA 1) f ++ (HO κ (AA 2) hf nx ct ++ (hW κ Hs gh 10 ++ (SW κ (AA 3) g1 ++ (SO la (AA 3 0) f1 ++ (SW κ (AA 4) g2 ++ (SO lb (AA 4 0) f2 ++ (OW κ (AA 5) no ot ++ (SW κ (AA 7) gp ++ PW κ (AA 6) (AA 7) eo v tx))))))))))))) pmM (fun u2 => pmM.symm) rfl (Nat.le_of_ble_eq_true rfl) dL_law_1046 ⟨by show _ ≤ 601024; omega, by show _ ≤ 7293034; omega⟩ (fun u2 hu2 => ?_)
  refine z_icmpE C 2685 rfl dL_law_1049 (by decide) ?_
  refine z_lv [0, 1, 2, 3, 4] rfl ?_
  exact K fo g f g1 g2 gp gh nx ct f1 f2 no ot eo v tx ip (upN w 1 0) σ aw h s2 cells slots (by omega) (by omega) ((H.mono (by omega) (by omega)).w1 _)
set_option maxRecDepth 100000 in
set_option maxHeartbeats 8000000 in
theorem lc_19 (C : zC p s m args c cL_law 9 wsL_law RL D (zTy κ) A) (hXc : aX adK adV A s s.heap) (hls : l.stackTraces = false) (hX : va_X sc L xs s s.heap) (hb0 : sc < s.heap.size) (hA0 : ¬ A sc) (hhf : ∀ j, j < 10 → hf j = some (Hs j 0)) (hi6 : i + 6 ≤ L) (hL : L ≤ 3072) (hcr : cells + 1 ≤ 601024 ∧ slots + 6 ≤ 7293034) (H : LI M g g1 g2 gh nx ct f1 f2 no v tx ip w σ h s2) (hM1 : 700000 ≤ M) (hM : M ≤ 1400000) (K : LGO p l e s m args below meth c D A Q sc κ ra la lb oa Ad AA Hs hf 2685 (M + 1200) i (cells + 1) (slots + 6))   : zW p l e RML s m args below meth c 9 D A cells slots Q (LAWW κ ra la lb oa Ad AA Hs hf fo g f g1 g2 gp gh nx ct f1 f2 no ot eo v tx ip w σ aw h s2) [(0, .ref (sc)), (1, .ref (ra)), (2, .ref (Ad 0)), (3, .ref (oa)), (4, .int (nI i))] 1054 [] := by
  obtain ⟨hr, hv, ht0⟩ := id H.1
  obtain ⟨hnx, hct, h5, -⟩ := id H.2.1
  obtain ⟨q1, q2, h7, -, -⟩ := id H.2.2.1
  obtain ⟨v1, hw9, v2, ht⟩ := id H.2.2.2.1
  obtain ⟨hno, hn64⟩ := id H.2.2.2.2
  have n1 := hv.n1
  have n2 := hv.n2
  refine z_aload_n C dL_law_1054 1 rfl ?_
  refine z_callV C (mX5_trainCount l D κ (AA 0) g ra (AA 1 0) (AA 2 0) la lb (AA 6 0) (AA 5 0) σ M hr hv) gL_law_X5_trainCount rfl rfl rfl hdX5_trainCount ⟨(Nat.le_of_ble_eq_true rfl), (Nat.le_of_ble_eq_true rfl)⟩ 13 rfl rfl _ (fun u1 => OUTW κ oa fo ++ (MW κ Ad eo ip w σ aw (hiF h) (hiF s2) ot ++ (SW κ (AA 0) g ++ (RC ra (AA 0 0) (AA 1 0) (AA 2 0) la lb (AA 6 0) (AA 5 0) ++ (SW κ (AA 1) f ++ (HO κ (AA 2) hf nx ct ++ (hW κ Hs gh 10 ++ (SW κ (AA 3) g1 ++ (SO la (AA 3 0) f1 ++ (SW κ (AA 4) g2 ++ (SO lb (AA 4 0) f2 ++ (OW κ (AA 5) no ot ++ (SW κ (AA 7) gp ++ PW κ (AA 6) (AA 7) eo v tx))))))))))))) pmX_S (fun u1 => pmX_S.symm) rfl (Nat.le_of_ble_eq_true rfl) dL_law_1055 ⟨by show _ ≤ 601024; omega, by show _ ≤ 7293034; omega⟩ (fun u1 hu1 => ?_)
  refine z_aload_n C dL_law_1058 2 rfl ?_
  refine z_callV C (mX6_trainCount l D κ Ad eo ip w σ aw (hiF h) (hiF s2) ot M hv.1) gL_law_X6_trainCount rfl rfl rfl hdX6_trainCount ⟨(Nat.le_of_ble_eq_true rfl), (Nat.le_of_ble_eq_true rfl)⟩ 0 rfl rfl _ (fun u2 => OUTW κ oa fo ++ (MW κ Ad eo ip (upN w 1 0) σ aw (hiF h) (hiF s2) ot ++ (SW κ (AA 0) g ++ (RC ra (AA 0 0) (AA 1 0) (AA 2 0) la lb (AA 6 0) (AA 5 0) ++ (SW κ (AA 1) f ++ (HO κ (AA 2) hf nx ct ++ (hW κ Hs gh 10 ++ (SW κ (AA 3) g1 ++ (SO la (AA 3 0) f1 ++ (SW κ (AA 4) g2 ++ (SO lb (AA 4 0) f2 ++ (OW κ (AA 5) no ot ++ (SW κ (AA 7) gp ++ PW κ (AA 6) (AA 7) eo v tx))))))))))))) pmM (fun u2 => pmM.symm) rfl (Nat.le_of_ble_eq_true rfl) dL_law_1059 ⟨by show _ ≤ 601024; omega, by show _ ≤ 7293034; omega⟩ (fun u2 hu2 => ?_)
  refine z_icmpE C 2685 rfl dL_law_1062 (by decide) ?_
  refine z_lv [0, 1, 2, 3, 4] rfl ?_
  exact K fo g f g1 g2 gp gh nx ct f1 f2 no ot eo v tx ip (upN w 1 0) σ aw h s2 cells slots (by omega) (by omega) ((H.mono (by omega) (by omega)).w1 _)
set_option maxRecDepth 100000 in
set_option maxHeartbeats 8000000 in
theorem lc_20_ok (C : zC p s m args c cL_law 9 wsL_law RL D (zTy κ) A) (hXc : aX adK adV A s s.heap) (hls : l.stackTraces = false) (hX : va_X sc L xs s s.heap) (hb0 : sc < s.heap.size) (hA0 : ¬ A sc) (hhf : ∀ j, j < 10 → hf j = some (Hs j 0)) (hi6 : i + 6 ≤ L) (hL : L ≤ 3072) (hcr : cells + 1 ≤ 601024 ∧ slots + 6 ≤ 7293034) (H : LI M g g1 g2 gh nx ct f1 f2 no v tx ip w σ h s2) (hM1 : 700000 ≤ M) (hM : M ≤ 1400000) (K : LGO p l e s m args below meth c D A Q sc κ ra la lb oa Ad AA Hs hf 2685 (M + 1200) i (cells + 1) (slots + 6)) (b : Nat) (hb : b < σ 2) (hx19 : xs (i + 1) = nI b) : zW p l e RML s m args below meth c 9 D A cells slots Q (LAWW κ ra la lb oa Ad AA Hs hf fo g f g1 g2 gp gh nx ct f1 f2 no ot eo v tx ip w σ aw h s2) [(0, .ref (sc)), (1, .ref (ra)), (2, .ref (Ad 0)), (3, .ref (oa)), (4, .int (nI i))] 1067 [] := by
  obtain ⟨hr, hv, ht0⟩ := id H.1
  obtain ⟨hnx, hct, h5, -⟩ := id H.2.1
  obtain ⟨q1, q2, h7, -, -⟩ := id H.2.2.1
  obtain ⟨v1, hw9, v2, ht⟩ := id H.2.2.2.1
  obtain ⟨hno, hn64⟩ := id H.2.2.2.2
  have n1 := hv.n1
  have n2 := hv.n2
  refine z_aload_n C dL_law_1067 1 rfl ?_
  refine z_aload_n C dL_law_1068 0 rfl ?_
  refine z_iload C dL_law_1069 4 rfl ?_
  refine z_iconst (v := nI 1) C dL_law_1071 (by decide) ?_
  refine zn_iadd C dL_law_1072 ?_
  refine z_sld C hX hb0 hA0 (i := i + 1) (by omega) (by omega) hx19 dL_law_1073 ?_
  refine z_aload_n C dL_law_1074 3 rfl ?_
  refine zh_callS C (aX_ok adK adV) hXc (mL_blockOf_ok l D κ (AA 0) g ra (AA 1 0) (AA 2 0) la lb (AA 6 0) (AA 5 0) σ M b hr hv hb adK adV oa fo) gL_law_L_blockOf rfl rfl rfl hdL_blockOf ⟨(Nat.le_of_ble_eq_true rfl), (Nat.le_of_ble_eq_true rfl)⟩ _ (fun u1 => OUTW κ oa (vp_updL fo 0 (((nI (σ (65 + 5 * b + 2)))).toInt64)) ++ (MW κ Ad eo ip w σ aw (hiF h) (hiF s2) ot ++ (SW κ (AA 0) g ++ (RC ra (AA 0 0) (AA 1 0) (AA 2 0) la lb (AA 6 0) (AA 5 0) ++ (SW κ (AA 1) f ++ (HO κ (AA 2) hf nx ct ++ (hW κ Hs gh 10 ++ (SW κ (AA 3) g1 ++ (SO la (AA 3 0) f1 ++ (SW κ (AA 4) g2 ++ (SO lb (AA 4 0) f2 ++ (OW κ (AA 5) no ot ++ (SW κ (AA 7) gp ++ PW κ (AA 6) (AA 7) eo v tx))))))))))))) pmH_S (fun u1 => pmH_S.symm) rfl (Nat.le_of_ble_eq_true rfl) dL_law_1075 ⟨by show _ ≤ 601024; omega, by show _ ≤ 7293034; omega⟩ (fun u1 hu1 => ?_)
  refine z_istore C [(5, .int (nI 0)), (0, .ref (sc)), (1, .ref (ra)), (2, .ref (Ad 0)), (3, .ref (oa)), (4, .int (nI i))] dL_law_1078 (by decide) rfl ?_
  refine z_aload_n C dL_law_1080 3 rfl ?_
  refine z_aload_n C dL_law_1081 1 rfl ?_
  refine z_iload C dL_law_1082 5 rfl ?_
  refine z_iconst (v := nI 1) C dL_law_1084 (by decide) ?_
  refine zn_iadd C dL_law_1085 ?_
  refine z_sld C hX hb0 hA0 (i := i + 1) (by omega) (by omega) hx19 dL_law_1086 ?_
  refine z_callV C (mX6_blockOf_ok l D κ Ad eo ip w σ aw (hiF h) (hiF s2) ot M b hv.1 (by first | assumption | omega)) gL_law_X6_blockOf rfl rfl rfl hdX6_blockOf ⟨(Nat.le_of_ble_eq_true rfl), (Nat.le_of_ble_eq_true rfl)⟩ 0 rfl rfl _ (fun u2 => OUTW κ oa (vp_updL fo 0 (((nI (σ (65 + 5 * b + 2)))).toInt64)) ++ (MW κ Ad eo ip (upN w 1 0) σ aw (hiF h) (hiF s2) ot ++ (SW κ (AA 0) g ++ (RC ra (AA 0 0) (AA 1 0) (AA 2 0) la lb (AA 6 0) (AA 5 0) ++ (SW κ (AA 1) f ++ (HO κ (AA 2) hf nx ct ++ (hW κ Hs gh 10 ++ (SW κ (AA 3) g1 ++ (SO la (AA 3 0) f1 ++ (SW κ (AA 4) g2 ++ (SO lb (AA 4 0) f2 ++ (OW κ (AA 5) no ot ++ (SW κ (AA 7) gp ++ PW κ (AA 6) (AA 7) eo v tx))))))))))))) pmM (fun u2 => pmM.symm) rfl (Nat.le_of_ble_eq_true rfl) dL_law_1087 ⟨by show _ ≤ 601024; omega, by show _ ≤ 7293034; omega⟩ (fun u2 hu2 => ?_)
  refine z_istore C [(6, .int ((nI (σ (65 + 5 * b + 2))))), (5, .int (nI 0)), (0, .ref (sc)), (1, .ref (ra)), (2, .ref (Ad 0)), (3, .ref (oa)), (4, .int (nI i))] dL_law_1090 (by decide) rfl ?_
  refine z_aload_n C dL_law_1092 4 rfl ?_
  refine z_callV C (mX6_thrown l D κ Ad eo ip (upN w 1 0) σ aw (hiF h) (hiF s2) ot) gL_law_X6_thrown rfl rfl rfl hdX6_thrown ⟨(Nat.le_of_ble_eq_true rfl), (Nat.le_of_ble_eq_true rfl)⟩ 0 rfl rfl _ (fun _ => OUTW κ oa (vp_updL fo 0 (((nI (σ (65 + 5 * b + 2)))).toInt64)) ++ (MW κ Ad eo ip (upN w 1 0) σ aw (hiF h) (hiF s2) ot ++ (SW κ (AA 0) g ++ (RC ra (AA 0 0) (AA 1 0) (AA 2 0) la lb (AA 6 0) (AA 5 0) ++ (SW κ (AA 1) f ++ (HO κ (AA 2) hf nx ct ++ (hW κ Hs gh 10 ++ (SW κ (AA 3) g1 ++ (SO la (AA 3 0) f1 ++ (SW κ (AA 4) g2 ++ (SO lb (AA 4 0) f2 ++ (OW κ (AA 5) no ot ++ (SW κ (AA 7) gp ++ PW κ (AA 6) (AA 7) eo v tx))))))))))))) pmM (fun _ => pmM.symm) rfl (Nat.le_of_ble_eq_true rfl) dL_law_1093 ⟨by show _ ≤ 601024; omega, by show _ ≤ 7293034; omega⟩ (fun _ _ => ?_)
  refine z_iload C dL_law_1096 1 rfl ?_
  refine z_icmpE C 1103 rfl dL_law_1098 (by decide) ?_
  refine z_iload C dL_law_1103 1 rfl ?_
  refine z_if_ne C 1120 dL_law_1105 (by decide) (fun q => absurd (by decide) q) (fun _ => ?_)
  refine z_aload_n C dL_law_1108 5 rfl ?_
  refine z_iconst (v := nI 0) C dL_law_1109 (by decide) ?_
  refine z_lald C 0 4 rfl rfl (i := 0) (by decide) (by decide) dL_law_1110 ?_
  refine z_iload C dL_law_1111 0 rfl ?_
  refine z_i2l C dL_law_1113 rfl ?_
  refine z_lcmpE C (updL_0) dL_law_1114 ?_
  refine z_if_eq C 1120 dL_law_1115 (by decide) (fun _ => ?_) (fun q => absurd (by decide) q)
  refine z_goto (tgt := 2685) C dL_law_1120 (by decide) ?_
  refine z_lv [2, 3, 4, 5, 6] rfl ?_
  exact K (vp_updL fo 0 (((nI (σ (65 + 5 * b + 2)))).toInt64)) g f g1 g2 gp gh nx ct f1 f2 no ot eo v tx ip (upN w 1 0) σ aw h s2 cells slots (by omega) (by omega) ((H.mono (by omega) (by omega)).w1 _)
set_option maxRecDepth 100000 in
set_option maxHeartbeats 8000000 in
theorem lc_20_no (C : zC p s m args c cL_law 9 wsL_law RL D (zTy κ) A) (hXc : aX adK adV A s s.heap) (hls : l.stackTraces = false) (hX : va_X sc L xs s s.heap) (hb0 : sc < s.heap.size) (hA0 : ¬ A sc) (hhf : ∀ j, j < 10 → hf j = some (Hs j 0)) (hi6 : i + 6 ≤ L) (hL : L ≤ 3072) (hcr : cells + 1 ≤ 601024 ∧ slots + 6 ≤ 7293034) (H : LI M g g1 g2 gh nx ct f1 f2 no v tx ip w σ h s2) (hM1 : 700000 ≤ M) (hM : M ≤ 1400000) (K : LGO p l e s m args below meth c D A Q sc κ ra la lb oa Ad AA Hs hf 2685 (M + 1200) i (cells + 1) (slots + 6)) (x : Int32) (hx : isB (σ 2) x = false) (hx19 : xs (i + 1) = x) : zW p l e RML s m args below meth c 9 D A cells slots Q (LAWW κ ra la lb oa Ad AA Hs hf fo g f g1 g2 gp gh nx ct f1 f2 no ot eo v tx ip w σ aw h s2) [(0, .ref (sc)), (1, .ref (ra)), (2, .ref (Ad 0)), (3, .ref (oa)), (4, .int (nI i))] 1067 [] := by
  obtain ⟨hr, hv, ht0⟩ := id H.1
  obtain ⟨hnx, hct, h5, -⟩ := id H.2.1
  obtain ⟨q1, q2, h7, -, -⟩ := id H.2.2.1
  obtain ⟨v1, hw9, v2, ht⟩ := id H.2.2.2.1
  obtain ⟨hno, hn64⟩ := id H.2.2.2.2
  have n1 := hv.n1
  have n2 := hv.n2
  refine z_aload_n C dL_law_1067 1 rfl ?_
  refine z_aload_n C dL_law_1068 0 rfl ?_
  refine z_iload C dL_law_1069 4 rfl ?_
  refine z_iconst (v := nI 1) C dL_law_1071 (by decide) ?_
  refine zn_iadd C dL_law_1072 ?_
  refine z_sld C hX hb0 hA0 (i := i + 1) (by omega) (by omega) hx19 dL_law_1073 ?_
  refine z_aload_n C dL_law_1074 3 rfl ?_
  refine zh_callS C (aX_ok adK adV) hXc (mL_blockOf_no l D κ adK adV (AA 0) g ra (AA 1 0) (AA 2 0) la lb (AA 6 0) (AA 5 0) σ M x hls hr hv hx oa fo) gL_law_L_blockOf rfl rfl rfl hdL_blockOf ⟨(Nat.le_of_ble_eq_true rfl), (Nat.le_of_ble_eq_true rfl)⟩ _ (fun u1 => OUTW κ oa fo ++ (MW κ Ad eo ip w σ aw (hiF h) (hiF s2) ot ++ (SW κ (AA 0) g ++ (RC ra (AA 0 0) (AA 1 0) (AA 2 0) la lb (AA 6 0) (AA 5 0) ++ (SW κ (AA 1) f ++ (HO κ (AA 2) hf nx ct ++ (hW κ Hs gh 10 ++ (SW κ (AA 3) g1 ++ (SO la (AA 3 0) f1 ++ (SW κ (AA 4) g2 ++ (SO lb (AA 4 0) f2 ++ (OW κ (AA 5) no ot ++ (SW κ (AA 7) gp ++ PW κ (AA 6) (AA 7) eo v tx))))))))))))) pmH_S (fun u1 => pmH_S.symm) rfl (Nat.le_of_ble_eq_true rfl) dL_law_1075 ⟨by show _ ≤ 601024; omega, by show _ ≤ 7293034; omega⟩ (fun u1 hu1 => ?_)
  refine z_istore C [(5, .int (nI 1)), (0, .ref (sc)), (1, .ref (ra)), (2, .ref (Ad 0)), (3, .ref (oa)), (4, .int (nI i))] dL_law_1078 (by decide) rfl ?_
  refine z_aload_n C dL_law_1080 3 rfl ?_
  refine z_aload_n C dL_law_1081 1 rfl ?_
  refine z_iload C dL_law_1082 5 rfl ?_
  refine z_iconst (v := nI 1) C dL_law_1084 (by decide) ?_
  refine zn_iadd C dL_law_1085 ?_
  refine z_sld C hX hb0 hA0 (i := i + 1) (by omega) (by omega) hx19 dL_law_1086 ?_
  refine z_callV C (mX6_blockOf_no l D κ Ad eo ip w σ aw (hiF h) (hiF s2) ot M x hv.1 hx) gL_law_X6_blockOf rfl rfl rfl hdX6_blockOf ⟨(Nat.le_of_ble_eq_true rfl), (Nat.le_of_ble_eq_true rfl)⟩ 0 rfl rfl _ (fun u2 => OUTW κ oa fo ++ (MW κ Ad eo ip (upN w 1 1) σ aw (hiF h) (hiF s2) ot ++ (SW κ (AA 0) g ++ (RC ra (AA 0 0) (AA 1 0) (AA 2 0) la lb (AA 6 0) (AA 5 0) ++ (SW κ (AA 1) f ++ (HO κ (AA 2) hf nx ct ++ (hW κ Hs gh 10 ++ (SW κ (AA 3) g1 ++ (SO la (AA 3 0) f1 ++ (SW κ (AA 4) g2 ++ (SO lb (AA 4 0) f2 ++ (OW κ (AA 5) no ot ++ (SW κ (AA 7) gp ++ PW κ (AA 6) (AA 7) eo v tx))))))))))))) pmM (fun u2 => pmM.symm) rfl (Nat.le_of_ble_eq_true rfl) dL_law_1087 ⟨by show _ ≤ 601024; omega, by show _ ≤ 7293034; omega⟩ (fun u2 hu2 => ?_)
  refine z_istore C [(6, .int ((nI 0))), (5, .int (nI 1)), (0, .ref (sc)), (1, .ref (ra)), (2, .ref (Ad 0)), (3, .ref (oa)), (4, .int (nI i))] dL_law_1090 (by decide) rfl ?_
  refine z_aload_n C dL_law_1092 4 rfl ?_
  refine z_callV C (mX6_thrown l D κ Ad eo ip (upN w 1 1) σ aw (hiF h) (hiF s2) ot) gL_law_X6_thrown rfl rfl rfl hdX6_thrown ⟨(Nat.le_of_ble_eq_true rfl), (Nat.le_of_ble_eq_true rfl)⟩ 0 rfl rfl _ (fun _ => OUTW κ oa fo ++ (MW κ Ad eo ip (upN w 1 1) σ aw (hiF h) (hiF s2) ot ++ (SW κ (AA 0) g ++ (RC ra (AA 0 0) (AA 1 0) (AA 2 0) la lb (AA 6 0) (AA 5 0) ++ (SW κ (AA 1) f ++ (HO κ (AA 2) hf nx ct ++ (hW κ Hs gh 10 ++ (SW κ (AA 3) g1 ++ (SO la (AA 3 0) f1 ++ (SW κ (AA 4) g2 ++ (SO lb (AA 4 0) f2 ++ (OW κ (AA 5) no ot ++ (SW κ (AA 7) gp ++ PW κ (AA 6) (AA 7) eo v tx))))))))))))) pmM (fun _ => pmM.symm) rfl (Nat.le_of_ble_eq_true rfl) dL_law_1093 ⟨by show _ ≤ 601024; omega, by show _ ≤ 7293034; omega⟩ (fun _ _ => ?_)
  refine z_iload C dL_law_1096 1 rfl ?_
  refine z_icmpE C 1103 rfl dL_law_1098 (by decide) ?_
  refine z_iload C dL_law_1103 1 rfl ?_
  refine z_if_ne C 1120 dL_law_1105 (by decide) (fun _ => ?_) (fun q => absurd q (by decide))
  refine z_goto (tgt := 2685) C dL_law_1120 (by decide) ?_
  refine z_lv [2, 3, 4, 5, 6] rfl ?_
  exact K fo g f g1 g2 gp gh nx ct f1 f2 no ot eo v tx ip (upN w 1 1) σ aw h s2 (cells + 1) (slots + 6) (by omega) (by omega) ((H.mono (by omega) (by omega)).w1 _)
set_option maxRecDepth 100000 in
set_option maxHeartbeats 8000000 in
theorem lc_21_ok (C : zC p s m args c cL_law 9 wsL_law RL D (zTy κ) A) (hXc : aX adK adV A s s.heap) (hls : l.stackTraces = false) (hX : va_X sc L xs s s.heap) (hb0 : sc < s.heap.size) (hA0 : ¬ A sc) (hhf : ∀ j, j < 10 → hf j = some (Hs j 0)) (hi6 : i + 6 ≤ L) (hL : L ≤ 3072) (hcr : cells + 1 ≤ 601024 ∧ slots + 6 ≤ 7293034) (H : LI M g g1 g2 gh nx ct f1 f2 no v tx ip w σ h s2) (hM1 : 700000 ≤ M) (hM : M ≤ 1400000) (K : LGO p l e s m args below meth c D A Q sc κ ra la lb oa Ad AA Hs hf 2685 (M + 1200) i (cells + 1) (slots + 6)) (b : Nat) (hb : b < σ 2) (hx19 : xs (i + 1) = nI b) : zW p l e RML s m args below meth c 9 D A cells slots Q (LAWW κ ra la lb oa Ad AA Hs hf fo g f g1 g2 gp gh nx ct f1 f2 no ot eo v tx ip w σ aw h s2) [(0, .ref (sc)), (1, .ref (ra)), (2, .ref (Ad 0)), (3, .ref (oa)), (4, .int (nI i))] 1123 [] := by
  obtain ⟨hr, hv, ht0⟩ := id H.1
  obtain ⟨hnx, hct, h5, -⟩ := id H.2.1
  obtain ⟨q1, q2, h7, -, -⟩ := id H.2.2.1
  obtain ⟨v1, hw9, v2, ht⟩ := id H.2.2.2.1
  obtain ⟨hno, hn64⟩ := id H.2.2.2.2
  have n1 := hv.n1
  have n2 := hv.n2
  refine z_aload_n C dL_law_1123 1 rfl ?_
  refine z_aload_n C dL_law_1124 0 rfl ?_
  refine z_iload C dL_law_1125 4 rfl ?_
  refine z_iconst (v := nI 1) C dL_law_1127 (by decide) ?_
  refine zn_iadd C dL_law_1128 ?_
  refine z_sld C hX hb0 hA0 (i := i + 1) (by omega) (by omega) hx19 dL_law_1129 ?_
  refine z_aload_n C dL_law_1130 3 rfl ?_
  refine zh_callS C (aX_ok adK adV) hXc (mL_positionOf_ok l D κ (AA 0) g ra (AA 1 0) (AA 2 0) la lb (AA 6 0) (AA 5 0) σ M b hr hv hb adK adV oa fo) gL_law_L_positionOf rfl rfl rfl hdL_positionOf ⟨(Nat.le_of_ble_eq_true rfl), (Nat.le_of_ble_eq_true rfl)⟩ _ (fun u1 => OUTW κ oa (vp_updL fo 0 (((nI (σ (65 + 5 * b + 3)))).toInt64)) ++ (MW κ Ad eo ip w σ aw (hiF h) (hiF s2) ot ++ (SW κ (AA 0) g ++ (RC ra (AA 0 0) (AA 1 0) (AA 2 0) la lb (AA 6 0) (AA 5 0) ++ (SW κ (AA 1) f ++ (HO κ (AA 2) hf nx ct ++ (hW κ Hs gh 10 ++ (SW κ (AA 3) g1 ++ (SO la (AA 3 0) f1 ++ (SW κ (AA 4) g2 ++ (SO lb (AA 4 0) f2 ++ (OW κ (AA 5) no ot ++ (SW κ (AA 7) gp ++ PW κ (AA 6) (AA 7) eo v tx))))))))))))) pmH_S (fun u1 => pmH_S.symm) rfl (Nat.le_of_ble_eq_true rfl) dL_law_1131 ⟨by show _ ≤ 601024; omega, by show _ ≤ 7293034; omega⟩ (fun u1 hu1 => ?_)
  refine z_istore C [(5, .int (nI 0)), (0, .ref (sc)), (1, .ref (ra)), (2, .ref (Ad 0)), (3, .ref (oa)), (4, .int (nI i))] dL_law_1134 (by decide) rfl ?_
  refine z_aload_n C dL_law_1136 3 rfl ?_
  refine z_aload_n C dL_law_1137 1 rfl ?_
  refine z_iload C dL_law_1138 5 rfl ?_
  refine z_iconst (v := nI 1) C dL_law_1140 (by decide) ?_
  refine zn_iadd C dL_law_1141 ?_
  refine z_sld C hX hb0 hA0 (i := i + 1) (by omega) (by omega) hx19 dL_law_1142 ?_
  refine z_callV C (mX6_positionOf_ok l D κ Ad eo ip w σ aw (hiF h) (hiF s2) ot M b hv.1 (by first | assumption | omega)) gL_law_X6_positionOf rfl rfl rfl hdX6_positionOf ⟨(Nat.le_of_ble_eq_true rfl), (Nat.le_of_ble_eq_true rfl)⟩ 0 rfl rfl _ (fun u2 => OUTW κ oa (vp_updL fo 0 (((nI (σ (65 + 5 * b + 3)))).toInt64)) ++ (MW κ Ad eo ip (upN w 1 0) σ aw (hiF h) (hiF s2) ot ++ (SW κ (AA 0) g ++ (RC ra (AA 0 0) (AA 1 0) (AA 2 0) la lb (AA 6 0) (AA 5 0) ++ (SW κ (AA 1) f ++ (HO κ (AA 2) hf nx ct ++ (hW κ Hs gh 10 ++ (SW κ (AA 3) g1 ++ (SO la (AA 3 0) f1 ++ (SW κ (AA 4) g2 ++ (SO lb (AA 4 0) f2 ++ (OW κ (AA 5) no ot ++ (SW κ (AA 7) gp ++ PW κ (AA 6) (AA 7) eo v tx))))))))))))) pmM (fun u2 => pmM.symm) rfl (Nat.le_of_ble_eq_true rfl) dL_law_1143 ⟨by show _ ≤ 601024; omega, by show _ ≤ 7293034; omega⟩ (fun u2 hu2 => ?_)
  refine z_istore C [(6, .int ((nI (σ (65 + 5 * b + 3))))), (5, .int (nI 0)), (0, .ref (sc)), (1, .ref (ra)), (2, .ref (Ad 0)), (3, .ref (oa)), (4, .int (nI i))] dL_law_1146 (by decide) rfl ?_
  refine z_aload_n C dL_law_1148 4 rfl ?_
  refine z_callV C (mX6_thrown l D κ Ad eo ip (upN w 1 0) σ aw (hiF h) (hiF s2) ot) gL_law_X6_thrown rfl rfl rfl hdX6_thrown ⟨(Nat.le_of_ble_eq_true rfl), (Nat.le_of_ble_eq_true rfl)⟩ 0 rfl rfl _ (fun _ => OUTW κ oa (vp_updL fo 0 (((nI (σ (65 + 5 * b + 3)))).toInt64)) ++ (MW κ Ad eo ip (upN w 1 0) σ aw (hiF h) (hiF s2) ot ++ (SW κ (AA 0) g ++ (RC ra (AA 0 0) (AA 1 0) (AA 2 0) la lb (AA 6 0) (AA 5 0) ++ (SW κ (AA 1) f ++ (HO κ (AA 2) hf nx ct ++ (hW κ Hs gh 10 ++ (SW κ (AA 3) g1 ++ (SO la (AA 3 0) f1 ++ (SW κ (AA 4) g2 ++ (SO lb (AA 4 0) f2 ++ (OW κ (AA 5) no ot ++ (SW κ (AA 7) gp ++ PW κ (AA 6) (AA 7) eo v tx))))))))))))) pmM (fun _ => pmM.symm) rfl (Nat.le_of_ble_eq_true rfl) dL_law_1149 ⟨by show _ ≤ 601024; omega, by show _ ≤ 7293034; omega⟩ (fun _ _ => ?_)
  refine z_iload C dL_law_1152 1 rfl ?_
  refine z_icmpE C 1159 rfl dL_law_1154 (by decide) ?_
  refine z_iload C dL_law_1159 1 rfl ?_
  refine z_if_ne C 1176 dL_law_1161 (by decide) (fun q => absurd (by decide) q) (fun _ => ?_)
  refine z_aload_n C dL_law_1164 5 rfl ?_
  refine z_iconst (v := nI 0) C dL_law_1165 (by decide) ?_
  refine z_lald C 0 4 rfl rfl (i := 0) (by decide) (by decide) dL_law_1166 ?_
  refine z_iload C dL_law_1167 0 rfl ?_
  refine z_i2l C dL_law_1169 rfl ?_
  refine z_lcmpE C (updL_0) dL_law_1170 ?_
  refine z_if_eq C 1176 dL_law_1171 (by decide) (fun _ => ?_) (fun q => absurd (by decide) q)
  refine z_goto (tgt := 2685) C dL_law_1176 (by decide) ?_
  refine z_lv [2, 3, 4, 5, 6] rfl ?_
  exact K (vp_updL fo 0 (((nI (σ (65 + 5 * b + 3)))).toInt64)) g f g1 g2 gp gh nx ct f1 f2 no ot eo v tx ip (upN w 1 0) σ aw h s2 cells slots (by omega) (by omega) ((H.mono (by omega) (by omega)).w1 _)
set_option maxRecDepth 100000 in
set_option maxHeartbeats 8000000 in
theorem lc_21_no (C : zC p s m args c cL_law 9 wsL_law RL D (zTy κ) A) (hXc : aX adK adV A s s.heap) (hls : l.stackTraces = false) (hX : va_X sc L xs s s.heap) (hb0 : sc < s.heap.size) (hA0 : ¬ A sc) (hhf : ∀ j, j < 10 → hf j = some (Hs j 0)) (hi6 : i + 6 ≤ L) (hL : L ≤ 3072) (hcr : cells + 1 ≤ 601024 ∧ slots + 6 ≤ 7293034) (H : LI M g g1 g2 gh nx ct f1 f2 no v tx ip w σ h s2) (hM1 : 700000 ≤ M) (hM : M ≤ 1400000) (K : LGO p l e s m args below meth c D A Q sc κ ra la lb oa Ad AA Hs hf 2685 (M + 1200) i (cells + 1) (slots + 6)) (x : Int32) (hx : isB (σ 2) x = false) (hx19 : xs (i + 1) = x) : zW p l e RML s m args below meth c 9 D A cells slots Q (LAWW κ ra la lb oa Ad AA Hs hf fo g f g1 g2 gp gh nx ct f1 f2 no ot eo v tx ip w σ aw h s2) [(0, .ref (sc)), (1, .ref (ra)), (2, .ref (Ad 0)), (3, .ref (oa)), (4, .int (nI i))] 1123 [] := by
  obtain ⟨hr, hv, ht0⟩ := id H.1
  obtain ⟨hnx, hct, h5, -⟩ := id H.2.1
  obtain ⟨q1, q2, h7, -, -⟩ := id H.2.2.1
  obtain ⟨v1, hw9, v2, ht⟩ := id H.2.2.2.1
  obtain ⟨hno, hn64⟩ := id H.2.2.2.2
  have n1 := hv.n1
  have n2 := hv.n2
  refine z_aload_n C dL_law_1123 1 rfl ?_
  refine z_aload_n C dL_law_1124 0 rfl ?_
  refine z_iload C dL_law_1125 4 rfl ?_
  refine z_iconst (v := nI 1) C dL_law_1127 (by decide) ?_
  refine zn_iadd C dL_law_1128 ?_
  refine z_sld C hX hb0 hA0 (i := i + 1) (by omega) (by omega) hx19 dL_law_1129 ?_
  refine z_aload_n C dL_law_1130 3 rfl ?_
  refine zh_callS C (aX_ok adK adV) hXc (mL_positionOf_no l D κ adK adV (AA 0) g ra (AA 1 0) (AA 2 0) la lb (AA 6 0) (AA 5 0) σ M x hls hr hv hx oa fo) gL_law_L_positionOf rfl rfl rfl hdL_positionOf ⟨(Nat.le_of_ble_eq_true rfl), (Nat.le_of_ble_eq_true rfl)⟩ _ (fun u1 => OUTW κ oa fo ++ (MW κ Ad eo ip w σ aw (hiF h) (hiF s2) ot ++ (SW κ (AA 0) g ++ (RC ra (AA 0 0) (AA 1 0) (AA 2 0) la lb (AA 6 0) (AA 5 0) ++ (SW κ (AA 1) f ++ (HO κ (AA 2) hf nx ct ++ (hW κ Hs gh 10 ++ (SW κ (AA 3) g1 ++ (SO la (AA 3 0) f1 ++ (SW κ (AA 4) g2 ++ (SO lb (AA 4 0) f2 ++ (OW κ (AA 5) no ot ++ (SW κ (AA 7) gp ++ PW κ (AA 6) (AA 7) eo v tx))))))))))))) pmH_S (fun u1 => pmH_S.symm) rfl (Nat.le_of_ble_eq_true rfl) dL_law_1131 ⟨by show _ ≤ 601024; omega, by show _ ≤ 7293034; omega⟩ (fun u1 hu1 => ?_)
  refine z_istore C [(5, .int (nI 1)), (0, .ref (sc)), (1, .ref (ra)), (2, .ref (Ad 0)), (3, .ref (oa)), (4, .int (nI i))] dL_law_1134 (by decide) rfl ?_
  refine z_aload_n C dL_law_1136 3 rfl ?_
  refine z_aload_n C dL_law_1137 1 rfl ?_
  refine z_iload C dL_law_1138 5 rfl ?_
  refine z_iconst (v := nI 1) C dL_law_1140 (by decide) ?_
  refine zn_iadd C dL_law_1141 ?_
  refine z_sld C hX hb0 hA0 (i := i + 1) (by omega) (by omega) hx19 dL_law_1142 ?_
  refine z_callV C (mX6_positionOf_no l D κ Ad eo ip w σ aw (hiF h) (hiF s2) ot M x hv.1 hx) gL_law_X6_positionOf rfl rfl rfl hdX6_positionOf ⟨(Nat.le_of_ble_eq_true rfl), (Nat.le_of_ble_eq_true rfl)⟩ 0 rfl rfl _ (fun u2 => OUTW κ oa fo ++ (MW κ Ad eo ip (upN w 1 1) σ aw (hiF h) (hiF s2) ot ++ (SW κ (AA 0) g ++ (RC ra (AA 0 0) (AA 1 0) (AA 2 0) la lb (AA 6 0) (AA 5 0) ++ (SW κ (AA 1) f ++ (HO κ (AA 2) hf nx ct ++ (hW κ Hs gh 10 ++ (SW κ (AA 3) g1 ++ (SO la (AA 3 0) f1 ++ (SW κ (AA 4) g2 ++ (SO lb (AA 4 0) f2 ++ (OW κ (AA 5) no ot ++ (SW κ (AA 7) gp ++ PW κ (AA 6) (AA 7) eo v tx))))))))))))) pmM (fun u2 => pmM.symm) rfl (Nat.le_of_ble_eq_true rfl) dL_law_1143 ⟨by show _ ≤ 601024; omega, by show _ ≤ 7293034; omega⟩ (fun u2 hu2 => ?_)
  refine z_istore C [(6, .int ((nI 0))), (5, .int (nI 1)), (0, .ref (sc)), (1, .ref (ra)), (2, .ref (Ad 0)), (3, .ref (oa)), (4, .int (nI i))] dL_law_1146 (by decide) rfl ?_
  refine z_aload_n C dL_law_1148 4 rfl ?_
  refine z_callV C (mX6_thrown l D κ Ad eo ip (upN w 1 1) σ aw (hiF h) (hiF s2) ot) gL_law_X6_thrown rfl rfl rfl hdX6_thrown ⟨(Nat.le_of_ble_eq_true rfl), (Nat.le_of_ble_eq_true rfl)⟩ 0 rfl rfl _ (fun _ => OUTW κ oa fo ++ (MW κ Ad eo ip (upN w 1 1) σ aw (hiF h) (hiF s2) ot ++ (SW κ (AA 0) g ++ (RC ra (AA 0 0) (AA 1 0) (AA 2 0) la lb (AA 6 0) (AA 5 0) ++ (SW κ (AA 1) f ++ (HO κ (AA 2) hf nx ct ++ (hW κ Hs gh 10 ++ (SW κ (AA 3) g1 ++ (SO la (AA 3 0) f1 ++ (SW κ (AA 4) g2 ++ (SO lb (AA 4 0) f2 ++ (OW κ (AA 5) no ot ++ (SW κ (AA 7) gp ++ PW κ (AA 6) (AA 7) eo v tx))))))))))))) pmM (fun _ => pmM.symm) rfl (Nat.le_of_ble_eq_true rfl) dL_law_1149 ⟨by show _ ≤ 601024; omega, by show _ ≤ 7293034; omega⟩ (fun _ _ => ?_)
  refine z_iload C dL_law_1152 1 rfl ?_
  refine z_icmpE C 1159 rfl dL_law_1154 (by decide) ?_
  refine z_iload C dL_law_1159 1 rfl ?_
  refine z_if_ne C 1176 dL_law_1161 (by decide) (fun _ => ?_) (fun q => absurd q (by decide))
  refine z_goto (tgt := 2685) C dL_law_1176 (by decide) ?_
  refine z_lv [2, 3, 4, 5, 6] rfl ?_
  exact K fo g f g1 g2 gp gh nx ct f1 f2 no ot eo v tx ip (upN w 1 1) σ aw h s2 (cells + 1) (slots + 6) (by omega) (by omega) ((H.mono (by omega) (by omega)).w1 _)
set_option maxRecDepth 100000 in
set_option maxHeartbeats 8000000 in
theorem lc_22_ok (C : zC p s m args c cL_law 9 wsL_law RL D (zTy κ) A) (hXc : aX adK adV A s s.heap) (hls : l.stackTraces = false) (hX : va_X sc L xs s s.heap) (hb0 : sc < s.heap.size) (hA0 : ¬ A sc) (hhf : ∀ j, j < 10 → hf j = some (Hs j 0)) (hi6 : i + 6 ≤ L) (hL : L ≤ 3072) (hcr : cells + 1 ≤ 601024 ∧ slots + 6 ≤ 7293034) (H : LI M g g1 g2 gh nx ct f1 f2 no v tx ip w σ h s2) (hM1 : 700000 ≤ M) (hM : M ≤ 1400000) (K : LGO p l e s m args below meth c D A Q sc κ ra la lb oa Ad AA Hs hf 2685 (M + 1200) i (cells + 1) (slots + 6)) (b : Nat) (hb : b < σ 2) (hx19 : xs (i + 1) = nI b) : zW p l e RML s m args below meth c 9 D A cells slots Q (LAWW κ ra la lb oa Ad AA Hs hf fo g f g1 g2 gp gh nx ct f1 f2 no ot eo v tx ip w σ aw h s2) [(0, .ref (sc)), (1, .ref (ra)), (2, .ref (Ad 0)), (3, .ref (oa)), (4, .int (nI i))] 1179 [] := by
  obtain ⟨hr, hv, ht0⟩ := id H.1
  obtain ⟨hnx, hct, h5, -⟩ := id H.2.1
  obtain ⟨q1, q2, h7, -, -⟩ := id H.2.2.1
  obtain ⟨v1, hw9, v2, ht⟩ := id H.2.2.2.1
  obtain ⟨hno, hn64⟩ := id H.2.2.2.2
  have n1 := hv.n1
  have n2 := hv.n2
  refine z_aload_n C dL_law_1179 1 rfl ?_
  refine z_aload_n C dL_law_1180 0 rfl ?_
  refine z_iload C dL_law_1181 4 rfl ?_
  refine z_iconst (v := nI 1) C dL_law_1183 (by decide) ?_
  refine zn_iadd C dL_law_1184 ?_
  refine z_sld C hX hb0 hA0 (i := i + 1) (by omega) (by omega) hx19 dL_law_1185 ?_
  refine z_aload_n C dL_law_1186 3 rfl ?_
  refine zh_callS C (aX_ok adK adV) hXc (mL_wagonsOf_ok l D κ (AA 0) g ra (AA 1 0) (AA 2 0) la lb (AA 6 0) (AA 5 0) σ M b hr hv hb adK adV oa fo) gL_law_L_wagonsOf rfl rfl rfl hdL_wagonsOf ⟨(Nat.le_of_ble_eq_true rfl), (Nat.le_of_ble_eq_true rfl)⟩ _ (fun u1 => OUTW κ oa (vp_updL fo 0 (((nI (σ (65 + 5 * b + 0)))).toInt64)) ++ (MW κ Ad eo ip w σ aw (hiF h) (hiF s2) ot ++ (SW κ (AA 0) g ++ (RC ra (AA 0 0) (AA 1 0) (AA 2 0) la lb (AA 6 0) (AA 5 0) ++ (SW κ (AA 1) f ++ (HO κ (AA 2) hf nx ct ++ (hW κ Hs gh 10 ++ (SW κ (AA 3) g1 ++ (SO la (AA 3 0) f1 ++ (SW κ (AA 4) g2 ++ (SO lb (AA 4 0) f2 ++ (OW κ (AA 5) no ot ++ (SW κ (AA 7) gp ++ PW κ (AA 6) (AA 7) eo v tx))))))))))))) pmH_S (fun u1 => pmH_S.symm) rfl (Nat.le_of_ble_eq_true rfl) dL_law_1187 ⟨by show _ ≤ 601024; omega, by show _ ≤ 7293034; omega⟩ (fun u1 hu1 => ?_)
  refine z_istore C [(5, .int (nI 0)), (0, .ref (sc)), (1, .ref (ra)), (2, .ref (Ad 0)), (3, .ref (oa)), (4, .int (nI i))] dL_law_1190 (by decide) rfl ?_
  refine z_aload_n C dL_law_1192 3 rfl ?_
  refine z_aload_n C dL_law_1193 1 rfl ?_
  refine z_iload C dL_law_1194 5 rfl ?_
  refine z_iconst (v := nI 1) C dL_law_1196 (by decide) ?_
  refine zn_iadd C dL_law_1197 ?_
  refine z_sld C hX hb0 hA0 (i := i + 1) (by omega) (by omega) hx19 dL_law_1198 ?_
  refine z_callV C (mX6_wagonsOf_ok l D κ Ad eo ip w σ aw (hiF h) (hiF s2) ot M b hv.1 (by first | assumption | omega)) gL_law_X6_wagonsOf rfl rfl rfl hdX6_wagonsOf ⟨(Nat.le_of_ble_eq_true rfl), (Nat.le_of_ble_eq_true rfl)⟩ 0 rfl rfl _ (fun u2 => OUTW κ oa (vp_updL fo 0 (((nI (σ (65 + 5 * b + 0)))).toInt64)) ++ (MW κ Ad eo ip (upN w 1 0) σ aw (hiF h) (hiF s2) ot ++ (SW κ (AA 0) g ++ (RC ra (AA 0 0) (AA 1 0) (AA 2 0) la lb (AA 6 0) (AA 5 0) ++ (SW κ (AA 1) f ++ (HO κ (AA 2) hf nx ct ++ (hW κ Hs gh 10 ++ (SW κ (AA 3) g1 ++ (SO la (AA 3 0) f1 ++ (SW κ (AA 4) g2 ++ (SO lb (AA 4 0) f2 ++ (OW κ (AA 5) no ot ++ (SW κ (AA 7) gp ++ PW κ (AA 6) (AA 7) eo v tx))))))))))))) pmM (fun u2 => pmM.symm) rfl (Nat.le_of_ble_eq_true rfl) dL_law_1199 ⟨by show _ ≤ 601024; omega, by show _ ≤ 7293034; omega⟩ (fun u2 hu2 => ?_)
  refine z_istore C [(6, .int ((nI (σ (65 + 5 * b + 0))))), (5, .int (nI 0)), (0, .ref (sc)), (1, .ref (ra)), (2, .ref (Ad 0)), (3, .ref (oa)), (4, .int (nI i))] dL_law_1202 (by decide) rfl ?_
  refine z_aload_n C dL_law_1204 4 rfl ?_
  refine z_callV C (mX6_thrown l D κ Ad eo ip (upN w 1 0) σ aw (hiF h) (hiF s2) ot) gL_law_X6_thrown rfl rfl rfl hdX6_thrown ⟨(Nat.le_of_ble_eq_true rfl), (Nat.le_of_ble_eq_true rfl)⟩ 0 rfl rfl _ (fun _ => OUTW κ oa (vp_updL fo 0 (((nI (σ (65 + 5 * b + 0)))).toInt64)) ++ (MW κ Ad eo ip (upN w 1 0) σ aw (hiF h) (hiF s2) ot ++ (SW κ (AA 0) g ++ (RC ra (AA 0 0) (AA 1 0) (AA 2 0) la lb (AA 6 0) (AA 5 0) ++ (SW κ (AA 1) f ++ (HO κ (AA 2) hf nx ct ++ (hW κ Hs gh 10 ++ (SW κ (AA 3) g1 ++ (SO la (AA 3 0) f1 ++ (SW κ (AA 4) g2 ++ (SO lb (AA 4 0) f2 ++ (OW κ (AA 5) no ot ++ (SW κ (AA 7) gp ++ PW κ (AA 6) (AA 7) eo v tx))))))))))))) pmM (fun _ => pmM.symm) rfl (Nat.le_of_ble_eq_true rfl) dL_law_1205 ⟨by show _ ≤ 601024; omega, by show _ ≤ 7293034; omega⟩ (fun _ _ => ?_)
  refine z_iload C dL_law_1208 1 rfl ?_
  refine z_icmpE C 1215 rfl dL_law_1210 (by decide) ?_
  refine z_iload C dL_law_1215 1 rfl ?_
  refine z_if_ne C 1232 dL_law_1217 (by decide) (fun q => absurd (by decide) q) (fun _ => ?_)
  refine z_aload_n C dL_law_1220 5 rfl ?_
  refine z_iconst (v := nI 0) C dL_law_1221 (by decide) ?_
  refine z_lald C 0 4 rfl rfl (i := 0) (by decide) (by decide) dL_law_1222 ?_
  refine z_iload C dL_law_1223 0 rfl ?_
  refine z_i2l C dL_law_1225 rfl ?_
  refine z_lcmpE C (updL_0) dL_law_1226 ?_
  refine z_if_eq C 1232 dL_law_1227 (by decide) (fun _ => ?_) (fun q => absurd (by decide) q)
  refine z_goto (tgt := 2685) C dL_law_1232 (by decide) ?_
  refine z_lv [2, 3, 4, 5, 6] rfl ?_
  exact K (vp_updL fo 0 (((nI (σ (65 + 5 * b + 0)))).toInt64)) g f g1 g2 gp gh nx ct f1 f2 no ot eo v tx ip (upN w 1 0) σ aw h s2 cells slots (by omega) (by omega) ((H.mono (by omega) (by omega)).w1 _)
set_option maxRecDepth 100000 in
set_option maxHeartbeats 8000000 in
theorem lc_22_no (C : zC p s m args c cL_law 9 wsL_law RL D (zTy κ) A) (hXc : aX adK adV A s s.heap) (hls : l.stackTraces = false) (hX : va_X sc L xs s s.heap) (hb0 : sc < s.heap.size) (hA0 : ¬ A sc) (hhf : ∀ j, j < 10 → hf j = some (Hs j 0)) (hi6 : i + 6 ≤ L) (hL : L ≤ 3072) (hcr : cells + 1 ≤ 601024 ∧ slots + 6 ≤ 7293034) (H : LI M g g1 g2 gh nx ct f1 f2 no v tx ip w σ h s2) (hM1 : 700000 ≤ M) (hM : M ≤ 1400000) (K : LGO p l e s m args below meth c D A Q sc κ ra la lb oa Ad AA Hs hf 2685 (M + 1200) i (cells + 1) (slots + 6)) (x : Int32) (hx : isB (σ 2) x = false) (hx19 : xs (i + 1) = x) : zW p l e RML s m args below meth c 9 D A cells slots Q (LAWW κ ra la lb oa Ad AA Hs hf fo g f g1 g2 gp gh nx ct f1 f2 no ot eo v tx ip w σ aw h s2) [(0, .ref (sc)), (1, .ref (ra)), (2, .ref (Ad 0)), (3, .ref (oa)), (4, .int (nI i))] 1179 [] := by
  obtain ⟨hr, hv, ht0⟩ := id H.1
  obtain ⟨hnx, hct, h5, -⟩ := id H.2.1
  obtain ⟨q1, q2, h7, -, -⟩ := id H.2.2.1
  obtain ⟨v1, hw9, v2, ht⟩ := id H.2.2.2.1
  obtain ⟨hno, hn64⟩ := id H.2.2.2.2
  have n1 := hv.n1
  have n2 := hv.n2
  refine z_aload_n C dL_law_1179 1 rfl ?_
  refine z_aload_n C dL_law_1180 0 rfl ?_
  refine z_iload C dL_law_1181 4 rfl ?_
  refine z_iconst (v := nI 1) C dL_law_1183 (by decide) ?_
  refine zn_iadd C dL_law_1184 ?_
  refine z_sld C hX hb0 hA0 (i := i + 1) (by omega) (by omega) hx19 dL_law_1185 ?_
  refine z_aload_n C dL_law_1186 3 rfl ?_
  refine zh_callS C (aX_ok adK adV) hXc (mL_wagonsOf_no l D κ adK adV (AA 0) g ra (AA 1 0) (AA 2 0) la lb (AA 6 0) (AA 5 0) σ M x hls hr hv hx oa fo) gL_law_L_wagonsOf rfl rfl rfl hdL_wagonsOf ⟨(Nat.le_of_ble_eq_true rfl), (Nat.le_of_ble_eq_true rfl)⟩ _ (fun u1 => OUTW κ oa fo ++ (MW κ Ad eo ip w σ aw (hiF h) (hiF s2) ot ++ (SW κ (AA 0) g ++ (RC ra (AA 0 0) (AA 1 0) (AA 2 0) la lb (AA 6 0) (AA 5 0) ++ (SW κ (AA 1) f ++ (HO κ (AA 2) hf nx ct ++ (hW κ Hs gh 10 ++ (SW κ (AA 3) g1 ++ (SO la (AA 3 0) f1 ++ (SW κ (AA 4) g2 ++ (SO lb (AA 4 0) f2 ++ (OW κ (AA 5) no ot ++ (SW κ (AA 7) gp ++ PW κ (AA 6) (AA 7) eo v tx))))))))))))) pmH_S (fun u1 => pmH_S.symm) rfl (Nat.le_of_ble_eq_true rfl) dL_law_1187 ⟨by show _ ≤ 601024; omega, by show _ ≤ 7293034; omega⟩ (fun u1 hu1 => ?_)
  refine z_istore C [(5, .int (nI 1)), (0, .ref (sc)), (1, .ref (ra)), (2, .ref (Ad 0)), (3, .ref (oa)), (4, .int (nI i))] dL_law_1190 (by decide) rfl ?_
  refine z_aload_n C dL_law_1192 3 rfl ?_
  refine z_aload_n C dL_law_1193 1 rfl ?_
  refine z_iload C dL_law_1194 5 rfl ?_
  refine z_iconst (v := nI 1) C dL_law_1196 (by decide) ?_
  refine zn_iadd C dL_law_1197 ?_
  refine z_sld C hX hb0 hA0 (i := i + 1) (by omega) (by omega) hx19 dL_law_1198 ?_
  refine z_callV C (mX6_wagonsOf_no l D κ Ad eo ip w σ aw (hiF h) (hiF s2) ot M x hv.1 hx) gL_law_X6_wagonsOf rfl rfl rfl hdX6_wagonsOf ⟨(Nat.le_of_ble_eq_true rfl), (Nat.le_of_ble_eq_true rfl)⟩ 0 rfl rfl _ (fun u2 => OUTW κ oa fo ++ (MW κ Ad eo ip (upN w 1 1) σ aw (hiF h) (hiF s2) ot ++ (SW κ (AA 0) g ++ (RC ra (AA 0 0) (AA 1 0) (AA 2 0) la lb (AA 6 0) (AA 5 0) ++ (SW κ (AA 1) f ++ (HO κ (AA 2) hf nx ct ++ (hW κ Hs gh 10 ++ (SW κ (AA 3) g1 ++ (SO la (AA 3 0) f1 ++ (SW κ (AA 4) g2 ++ (SO lb (AA 4 0) f2 ++ (OW κ (AA 5) no ot ++ (SW κ (AA 7) gp ++ PW κ (AA 6) (AA 7) eo v tx))))))))))))) pmM (fun u2 => pmM.symm) rfl (Nat.le_of_ble_eq_true rfl) dL_law_1199 ⟨by show _ ≤ 601024; omega, by show _ ≤ 7293034; omega⟩ (fun u2 hu2 => ?_)
  refine z_istore C [(6, .int ((nI 0))), (5, .int (nI 1)), (0, .ref (sc)), (1, .ref (ra)), (2, .ref (Ad 0)), (3, .ref (oa)), (4, .int (nI i))] dL_law_1202 (by decide) rfl ?_
  refine z_aload_n C dL_law_1204 4 rfl ?_
  refine z_callV C (mX6_thrown l D κ Ad eo ip (upN w 1 1) σ aw (hiF h) (hiF s2) ot) gL_law_X6_thrown rfl rfl rfl hdX6_thrown ⟨(Nat.le_of_ble_eq_true rfl), (Nat.le_of_ble_eq_true rfl)⟩ 0 rfl rfl _ (fun _ => OUTW κ oa fo ++ (MW κ Ad eo ip (upN w 1 1) σ aw (hiF h) (hiF s2) ot ++ (SW κ (AA 0) g ++ (RC ra (AA 0 0) (AA 1 0) (AA 2 0) la lb (AA 6 0) (AA 5 0) ++ (SW κ (AA 1) f ++ (HO κ (AA 2) hf nx ct ++ (hW κ Hs gh 10 ++ (SW κ (AA 3) g1 ++ (SO la (AA 3 0) f1 ++ (SW κ (AA 4) g2 ++ (SO lb (AA 4 0) f2 ++ (OW κ (AA 5) no ot ++ (SW κ (AA 7) gp ++ PW κ (AA 6) (AA 7) eo v tx))))))))))))) pmM (fun _ => pmM.symm) rfl (Nat.le_of_ble_eq_true rfl) dL_law_1205 ⟨by show _ ≤ 601024; omega, by show _ ≤ 7293034; omega⟩ (fun _ _ => ?_)
  refine z_iload C dL_law_1208 1 rfl ?_
  refine z_icmpE C 1215 rfl dL_law_1210 (by decide) ?_
  refine z_iload C dL_law_1215 1 rfl ?_
  refine z_if_ne C 1232 dL_law_1217 (by decide) (fun _ => ?_) (fun q => absurd q (by decide))
  refine z_goto (tgt := 2685) C dL_law_1232 (by decide) ?_
  refine z_lv [2, 3, 4, 5, 6] rfl ?_
  exact K fo g f g1 g2 gp gh nx ct f1 f2 no ot eo v tx ip (upN w 1 1) σ aw h s2 (cells + 1) (slots + 6) (by omega) (by omega) ((H.mono (by omega) (by omega)).w1 _)
set_option maxRecDepth 100000 in
set_option maxHeartbeats 8000000 in
theorem lc_23_ok (C : zC p s m args c cL_law 9 wsL_law RL D (zTy κ) A) (hXc : aX adK adV A s s.heap) (hls : l.stackTraces = false) (hX : va_X sc L xs s s.heap) (hb0 : sc < s.heap.size) (hA0 : ¬ A sc) (hhf : ∀ j, j < 10 → hf j = some (Hs j 0)) (hi6 : i + 6 ≤ L) (hL : L ≤ 3072) (hcr : cells + 1 ≤ 601024 ∧ slots + 6 ≤ 7293034) (H : LI M g g1 g2 gh nx ct f1 f2 no v tx ip w σ h s2) (hM1 : 700000 ≤ M) (hM : M ≤ 1400000) (K : LGO p l e s m args below meth c D A Q sc κ ra la lb oa Ad AA Hs hf 2685 (M + 1200) i (cells + 1) (slots + 6)) (b : Nat) (hb : b < σ 2) (hx19 : xs (i + 1) = nI b) : zW p l e RML s m args below meth c 9 D A cells slots Q (LAWW κ ra la lb oa Ad AA Hs hf fo g f g1 g2 gp gh nx ct f1 f2 no ot eo v tx ip w σ aw h s2) [(0, .ref (sc)), (1, .ref (ra)), (2, .ref (Ad 0)), (3, .ref (oa)), (4, .int (nI i))] 1235 [] := by
  obtain ⟨hr, hv, ht0⟩ := id H.1
  obtain ⟨hnx, hct, h5, -⟩ := id H.2.1
  obtain ⟨q1, q2, h7, -, -⟩ := id H.2.2.1
  obtain ⟨v1, hw9, v2, ht⟩ := id H.2.2.2.1
  obtain ⟨hno, hn64⟩ := id H.2.2.2.2
  have n1 := hv.n1
  have n2 := hv.n2
  refine z_aload_n C dL_law_1235 1 rfl ?_
  refine z_aload_n C dL_law_1236 0 rfl ?_
  refine z_iload C dL_law_1237 4 rfl ?_
  refine z_iconst (v := nI 1) C dL_law_1239 (by decide) ?_
  refine zn_iadd C dL_law_1240 ?_
  refine z_sld C hX hb0 hA0 (i := i + 1) (by omega) (by omega) hx19 dL_law_1241 ?_
  refine z_aload_n C dL_law_1242 3 rfl ?_
  refine zh_callS C (aX_ok adK adV) hXc (mL_topSpeedOf_ok l D κ (AA 0) g ra (AA 1 0) (AA 2 0) la lb (AA 6 0) (AA 5 0) σ M b hr hv hb adK adV oa fo) gL_law_L_topSpeedOf rfl rfl rfl hdL_topSpeedOf ⟨(Nat.le_of_ble_eq_true rfl), (Nat.le_of_ble_eq_true rfl)⟩ _ (fun u1 => OUTW κ oa (vp_updL fo 0 (((nI (σ (65 + 5 * b + 1)))).toInt64)) ++ (MW κ Ad eo ip w σ aw (hiF h) (hiF s2) ot ++ (SW κ (AA 0) g ++ (RC ra (AA 0 0) (AA 1 0) (AA 2 0) la lb (AA 6 0) (AA 5 0) ++ (SW κ (AA 1) f ++ (HO κ (AA 2) hf nx ct ++ (hW κ Hs gh 10 ++ (SW κ (AA 3) g1 ++ (SO la (AA 3 0) f1 ++ (SW κ (AA 4) g2 ++ (SO lb (AA 4 0) f2 ++ (OW κ (AA 5) no ot ++ (SW κ (AA 7) gp ++ PW κ (AA 6) (AA 7) eo v tx))))))))))))) pmH_S (fun u1 => pmH_S.symm) rfl (Nat.le_of_ble_eq_true rfl) dL_law_1243 ⟨by show _ ≤ 601024; omega, by show _ ≤ 7293034; omega⟩ (fun u1 hu1 => ?_)
  refine z_istore C [(5, .int (nI 0)), (0, .ref (sc)), (1, .ref (ra)), (2, .ref (Ad 0)), (3, .ref (oa)), (4, .int (nI i))] dL_law_1246 (by decide) rfl ?_
  refine z_aload_n C dL_law_1248 3 rfl ?_
  refine z_aload_n C dL_law_1249 1 rfl ?_
  refine z_iload C dL_law_1250 5 rfl ?_
  refine z_iconst (v := nI 1) C dL_law_1252 (by decide) ?_
  refine zn_iadd C dL_law_1253 ?_
  refine z_sld C hX hb0 hA0 (i := i + 1) (by omega) (by omega) hx19 dL_law_1254 ?_
  refine z_callV C (mX6_topSpeedOf_ok l D κ Ad eo ip w σ aw (hiF h) (hiF s2) ot M b hv.1 (by first | assumption | omega)) gL_law_X6_topSpeedOf rfl rfl rfl hdX6_topSpeedOf ⟨(Nat.le_of_ble_eq_true rfl), (Nat.le_of_ble_eq_true rfl)⟩ 0 rfl rfl _ (fun u2 => OUTW κ oa (vp_updL fo 0 (((nI (σ (65 + 5 * b + 1)))).toInt64)) ++ (MW κ Ad eo ip (upN w 1 0) σ aw (hiF h) (hiF s2) ot ++ (SW κ (AA 0) g ++ (RC ra (AA 0 0) (AA 1 0) (AA 2 0) la lb (AA 6 0) (AA 5 0) ++ (SW κ (AA 1) f ++ (HO κ (AA 2) hf nx ct ++ (hW κ Hs gh 10 ++ (SW κ (AA 3) g1 ++ (SO la (AA 3 0) f1 ++ (SW κ (AA 4) g2 ++ (SO lb (AA 4 0) f2 ++ (OW κ (AA 5) no ot ++ (SW κ (AA 7) gp ++ PW κ (AA 6) (AA 7) eo v tx))))))))))))) pmM (fun u2 => pmM.symm) rfl (Nat.le_of_ble_eq_true rfl) dL_law_1255 ⟨by show _ ≤ 601024; omega, by show _ ≤ 7293034; omega⟩ (fun u2 hu2 => ?_)
  refine z_istore C [(6, .int ((nI (σ (65 + 5 * b + 1))))), (5, .int (nI 0)), (0, .ref (sc)), (1, .ref (ra)), (2, .ref (Ad 0)), (3, .ref (oa)), (4, .int (nI i))] dL_law_1258 (by decide) rfl ?_
  refine z_aload_n C dL_law_1260 4 rfl ?_
  refine z_callV C (mX6_thrown l D κ Ad eo ip (upN w 1 0) σ aw (hiF h) (hiF s2) ot) gL_law_X6_thrown rfl rfl rfl hdX6_thrown ⟨(Nat.le_of_ble_eq_true rfl), (Nat.le_of_ble_eq_true rfl)⟩ 0 rfl rfl _ (fun _ => OUTW κ oa (vp_updL fo 0 (((nI (σ (65 + 5 * b + 1)))).toInt64)) ++ (MW κ Ad eo ip (upN w 1 0) σ aw (hiF h) (hiF s2) ot ++ (SW κ (AA 0) g ++ (RC ra (AA 0 0) (AA 1 0) (AA 2 0) la lb (AA 6 0) (AA 5 0) ++ (SW κ (AA 1) f ++ (HO κ (AA 2) hf nx ct ++ (hW κ Hs gh 10 ++ (SW κ (AA 3) g1 ++ (SO la (AA 3 0) f1 ++ (SW κ (AA 4) g2 ++ (SO lb (AA 4 0) f2 ++ (OW κ (AA 5) no ot ++ (SW κ (AA 7) gp ++ PW κ (AA 6) (AA 7) eo v tx))))))))))))) pmM (fun _ => pmM.symm) rfl (Nat.le_of_ble_eq_true rfl) dL_law_1261 ⟨by show _ ≤ 601024; omega, by show _ ≤ 7293034; omega⟩ (fun _ _ => ?_)
  refine z_iload C dL_law_1264 1 rfl ?_
  refine z_icmpE C 1271 rfl dL_law_1266 (by decide) ?_
  refine z_iload C dL_law_1271 1 rfl ?_
  refine z_if_ne C 1288 dL_law_1273 (by decide) (fun q => absurd (by decide) q) (fun _ => ?_)
  refine z_aload_n C dL_law_1276 5 rfl ?_
  refine z_iconst (v := nI 0) C dL_law_1277 (by decide) ?_
  refine z_lald C 0 4 rfl rfl (i := 0) (by decide) (by decide) dL_law_1278 ?_
  refine z_iload C dL_law_1279 0 rfl ?_
  refine z_i2l C dL_law_1281 rfl ?_
  refine z_lcmpE C (updL_0) dL_law_1282 ?_
  refine z_if_eq C 1288 dL_law_1283 (by decide) (fun _ => ?_) (fun q => absurd (by decide) q)
  refine z_goto (tgt := 2685) C dL_law_1288 (by decide) ?_
  refine z_lv [2, 3, 4, 5, 6] rfl ?_
  exact K (vp_updL fo 0 (((nI (σ (65 + 5 * b + 1)))).toInt64)) g f g1 g2 gp gh nx ct f1 f2 no ot eo v tx ip (upN w 1 0) σ aw h s2 cells slots (by omega) (by omega) ((H.mono (by omega) (by omega)).w1 _)
set_option maxRecDepth 100000 in
set_option maxHeartbeats 8000000 in
theorem lc_23_no (C : zC p s m args c cL_law 9 wsL_law RL D (zTy κ) A) (hXc : aX adK adV A s s.heap) (hls : l.stackTraces = false) (hX : va_X sc L xs s s.heap) (hb0 : sc < s.heap.size) (hA0 : ¬ A sc) (hhf : ∀ j, j < 10 → hf j = some (Hs j 0)) (hi6 : i + 6 ≤ L) (hL : L ≤ 3072) (hcr : cells + 1 ≤ 601024 ∧ slots + 6 ≤ 7293034) (H : LI M g g1 g2 gh nx ct f1 f2 no v tx ip w σ h s2) (hM1 : 700000 ≤ M) (hM : M ≤ 1400000) (K : LGO p l e s m args below meth c D A Q sc κ ra la lb oa Ad AA Hs hf 2685 (M + 1200) i (cells + 1) (slots + 6)) (x : Int32) (hx : isB (σ 2) x = false) (hx19 : xs (i + 1) = x) : zW p l e RML s m args below meth c 9 D A cells slots Q (LAWW κ ra la lb oa Ad AA Hs hf fo g f g1 g2 gp gh nx ct f1 f2 no ot eo v tx ip w σ aw h s2) [(0, .ref (sc)), (1, .ref (ra)), (2, .ref (Ad 0)), (3, .ref (oa)), (4, .int (nI i))] 1235 [] := by
  obtain ⟨hr, hv, ht0⟩ := id H.1
  obtain ⟨hnx, hct, h5, -⟩ := id H.2.1
  obtain ⟨q1, q2, h7, -, -⟩ := id H.2.2.1
  obtain ⟨v1, hw9, v2, ht⟩ := id H.2.2.2.1
  obtain ⟨hno, hn64⟩ := id H.2.2.2.2
  have n1 := hv.n1
  have n2 := hv.n2
  refine z_aload_n C dL_law_1235 1 rfl ?_
  refine z_aload_n C dL_law_1236 0 rfl ?_
  refine z_iload C dL_law_1237 4 rfl ?_
  refine z_iconst (v := nI 1) C dL_law_1239 (by decide) ?_
  refine zn_iadd C dL_law_1240 ?_
  refine z_sld C hX hb0 hA0 (i := i + 1) (by omega) (by omega) hx19 dL_law_1241 ?_
  refine z_aload_n C dL_law_1242 3 rfl ?_
  refine zh_callS C (aX_ok adK adV) hXc (mL_topSpeedOf_no l D κ adK adV (AA 0) g ra (AA 1 0) (AA 2 0) la lb (AA 6 0) (AA 5 0) σ M x hls hr hv hx oa fo) gL_law_L_topSpeedOf rfl rfl rfl hdL_topSpeedOf ⟨(Nat.le_of_ble_eq_true rfl), (Nat.le_of_ble_eq_true rfl)⟩ _ (fun u1 => OUTW κ oa fo ++ (MW κ Ad eo ip w σ aw (hiF h) (hiF s2) ot ++ (SW κ (AA 0) g ++ (RC ra (AA 0 0) (AA 1 0) (AA 2 0) la lb (AA 6 0) (AA 5 0) ++ (SW κ (AA 1) f ++ (HO κ (AA 2) hf nx ct ++ (hW κ Hs gh 10 ++ (SW κ (AA 3) g1 ++ (SO la (AA 3 0) f1 ++ (SW κ (AA 4) g2 ++ (SO lb (AA 4 0) f2 ++ (OW κ (AA 5) no ot ++ (SW κ (AA 7) gp ++ PW κ (AA 6) (AA 7) eo v tx))))))))))))) pmH_S (fun u1 => pmH_S.symm) rfl (Nat.le_of_ble_eq_true rfl) dL_law_1243 ⟨by show _ ≤ 601024; omega, by show _ ≤ 7293034; omega⟩ (fun u1 hu1 => ?_)
  refine z_istore C [(5, .int (nI 1)), (0, .ref (sc)), (1, .ref (ra)), (2, .ref (Ad 0)), (3, .ref (oa)), (4, .int (nI i))] dL_law_1246 (by decide) rfl ?_
  refine z_aload_n C dL_law_1248 3 rfl ?_
  refine z_aload_n C dL_law_1249 1 rfl ?_
  refine z_iload C dL_law_1250 5 rfl ?_
  refine z_iconst (v := nI 1) C dL_law_1252 (by decide) ?_
  refine zn_iadd C dL_law_1253 ?_
  refine z_sld C hX hb0 hA0 (i := i + 1) (by omega) (by omega) hx19 dL_law_1254 ?_
  refine z_callV C (mX6_topSpeedOf_no l D κ Ad eo ip w σ aw (hiF h) (hiF s2) ot M x hv.1 hx) gL_law_X6_topSpeedOf rfl rfl rfl hdX6_topSpeedOf ⟨(Nat.le_of_ble_eq_true rfl), (Nat.le_of_ble_eq_true rfl)⟩ 0 rfl rfl _ (fun u2 => OUTW κ oa fo ++ (MW κ Ad eo ip (upN w 1 1) σ aw (hiF h) (hiF s2) ot ++ (SW κ (AA 0) g ++ (RC ra (AA 0 0) (AA 1 0) (AA 2 0) la lb (AA 6 0) (AA 5 0) ++ (SW κ (AA 1) f ++ (HO κ (AA 2) hf nx ct ++ (hW κ Hs gh 10 ++ (SW κ (AA 3) g1 ++ (SO la (AA 3 0) f1 ++ (SW κ (AA 4) g2 ++ (SO lb (AA 4 0) f2 ++ (OW κ (AA 5) no ot ++ (SW κ (AA 7) gp ++ PW κ (AA 6) (AA 7) eo v tx))))))))))))) pmM (fun u2 => pmM.symm) rfl (Nat.le_of_ble_eq_true rfl) dL_law_1255 ⟨by show _ ≤ 601024; omega, by show _ ≤ 7293034; omega⟩ (fun u2 hu2 => ?_)
  refine z_istore C [(6, .int ((nI 0))), (5, .int (nI 1)), (0, .ref (sc)), (1, .ref (ra)), (2, .ref (Ad 0)), (3, .ref (oa)), (4, .int (nI i))] dL_law_1258 (by decide) rfl ?_
  refine z_aload_n C dL_law_1260 4 rfl ?_
  refine z_callV C (mX6_thrown l D κ Ad eo ip (upN w 1 1) σ aw (hiF h) (hiF s2) ot) gL_law_X6_thrown rfl rfl rfl hdX6_thrown ⟨(Nat.le_of_ble_eq_true rfl), (Nat.le_of_ble_eq_true rfl)⟩ 0 rfl rfl _ (fun _ => OUTW κ oa fo ++ (MW κ Ad eo ip (upN w 1 1) σ aw (hiF h) (hiF s2) ot ++ (SW κ (AA 0) g ++ (RC ra (AA 0 0) (AA 1 0) (AA 2 0) la lb (AA 6 0) (AA 5 0) ++ (SW κ (AA 1) f ++ (HO κ (AA 2) hf nx ct ++ (hW κ Hs gh 10 ++ (SW κ (AA 3) g1 ++ (SO la (AA 3 0) f1 ++ (SW κ (AA 4) g2 ++ (SO lb (AA 4 0) f2 ++ (OW κ (AA 5) no ot ++ (SW κ (AA 7) gp ++ PW κ (AA 6) (AA 7) eo v tx))))))))))))) pmM (fun _ => pmM.symm) rfl (Nat.le_of_ble_eq_true rfl) dL_law_1261 ⟨by show _ ≤ 601024; omega, by show _ ≤ 7293034; omega⟩ (fun _ _ => ?_)
  refine z_iload C dL_law_1264 1 rfl ?_
  refine z_icmpE C 1271 rfl dL_law_1266 (by decide) ?_
  refine z_iload C dL_law_1271 1 rfl ?_
  refine z_if_ne C 1288 dL_law_1273 (by decide) (fun _ => ?_) (fun q => absurd q (by decide))
  refine z_goto (tgt := 2685) C dL_law_1288 (by decide) ?_
  refine z_lv [2, 3, 4, 5, 6] rfl ?_
  exact K fo g f g1 g2 gp gh nx ct f1 f2 no ot eo v tx ip (upN w 1 1) σ aw h s2 (cells + 1) (slots + 6) (by omega) (by omega) ((H.mono (by omega) (by omega)).w1 _)
set_option maxRecDepth 100000 in
set_option maxHeartbeats 8000000 in
theorem lc_24_ok (C : zC p s m args c cL_law 9 wsL_law RL D (zTy κ) A) (hXc : aX adK adV A s s.heap) (hls : l.stackTraces = false) (hX : va_X sc L xs s s.heap) (hb0 : sc < s.heap.size) (hA0 : ¬ A sc) (hhf : ∀ j, j < 10 → hf j = some (Hs j 0)) (hi6 : i + 6 ≤ L) (hL : L ≤ 3072) (hcr : cells + 1 ≤ 601024 ∧ slots + 6 ≤ 7293034) (H : LI M g g1 g2 gh nx ct f1 f2 no v tx ip w σ h s2) (hM1 : 700000 ≤ M) (hM : M ≤ 1400000) (K : LGO p l e s m args below meth c D A Q sc κ ra la lb oa Ad AA Hs hf 2685 (M + 1200) i (cells + 1) (slots + 6)) (b : Nat) (hb : b < σ 2) (hx19 : xs (i + 1) = nI b) : zW p l e RML s m args below meth c 9 D A cells slots Q (LAWW κ ra la lb oa Ad AA Hs hf fo g f g1 g2 gp gh nx ct f1 f2 no ot eo v tx ip w σ aw h s2) [(0, .ref (sc)), (1, .ref (ra)), (2, .ref (Ad 0)), (3, .ref (oa)), (4, .int (nI i))] 1291 [] := by
  obtain ⟨hr, hv, ht0⟩ := id H.1
  obtain ⟨hnx, hct, h5, -⟩ := id H.2.1
  obtain ⟨q1, q2, h7, -, -⟩ := id H.2.2.1
  obtain ⟨v1, hw9, v2, ht⟩ := id H.2.2.2.1
  obtain ⟨hno, hn64⟩ := id H.2.2.2.2
  have n1 := hv.n1
  have n2 := hv.n2
  refine z_aload_n C dL_law_1291 1 rfl ?_
  refine z_aload_n C dL_law_1292 0 rfl ?_
  refine z_iload C dL_law_1293 4 rfl ?_
  refine z_iconst (v := nI 1) C dL_law_1295 (by decide) ?_
  refine zn_iadd C dL_law_1296 ?_
  refine z_sld C hX hb0 hA0 (i := i + 1) (by omega) (by omega) hx19 dL_law_1297 ?_
  refine z_aload_n C dL_law_1298 3 rfl ?_
  refine zh_callS C (aX_ok adK adV) hXc (mL_speedOf_ok l D κ (AA 0) g ra (AA 1 0) (AA 2 0) la lb (AA 6 0) (AA 5 0) σ M b hr hv hb adK adV oa fo) gL_law_L_speedOf rfl rfl rfl hdL_speedOf ⟨(Nat.le_of_ble_eq_true rfl), (Nat.le_of_ble_eq_true rfl)⟩ _ (fun u1 => OUTW κ oa (vp_updL fo 0 (((nI (spd σ b))).toInt64)) ++ (MW κ Ad eo ip w σ aw (hiF h) (hiF s2) ot ++ (SW κ (AA 0) g ++ (RC ra (AA 0 0) (AA 1 0) (AA 2 0) la lb (AA 6 0) (AA 5 0) ++ (SW κ (AA 1) f ++ (HO κ (AA 2) hf nx ct ++ (hW κ Hs gh 10 ++ (SW κ (AA 3) g1 ++ (SO la (AA 3 0) f1 ++ (SW κ (AA 4) g2 ++ (SO lb (AA 4 0) f2 ++ (OW κ (AA 5) no ot ++ (SW κ (AA 7) gp ++ PW κ (AA 6) (AA 7) eo v tx))))))))))))) pmH_S (fun u1 => pmH_S.symm) rfl (Nat.le_of_ble_eq_true rfl) dL_law_1299 ⟨by show _ ≤ 601024; omega, by show _ ≤ 7293034; omega⟩ (fun u1 hu1 => ?_)
  refine z_istore C [(5, .int (nI 0)), (0, .ref (sc)), (1, .ref (ra)), (2, .ref (Ad 0)), (3, .ref (oa)), (4, .int (nI i))] dL_law_1302 (by decide) rfl ?_
  refine z_aload_n C dL_law_1304 3 rfl ?_
  refine z_aload_n C dL_law_1305 1 rfl ?_
  refine z_iload C dL_law_1306 5 rfl ?_
  refine z_iconst (v := nI 1) C dL_law_1308 (by decide) ?_
  refine zn_iadd C dL_law_1309 ?_
  refine z_sld C hX hb0 hA0 (i := i + 1) (by omega) (by omega) hx19 dL_law_1310 ?_
  refine z_callV C (mX6_speedOf_ok l D κ Ad eo ip w σ aw (hiF h) (hiF s2) ot M b hv.1 (by first | assumption | omega)) gL_law_X6_speedOf rfl rfl rfl hdX6_speedOf ⟨(Nat.le_of_ble_eq_true rfl), (Nat.le_of_ble_eq_true rfl)⟩ 0 rfl rfl _ (fun u2 => OUTW κ oa (vp_updL fo 0 (((nI (spd σ b))).toInt64)) ++ (MW κ Ad eo ip (upN w 1 0) σ aw (hiF h) (hiF s2) ot ++ (SW κ (AA 0) g ++ (RC ra (AA 0 0) (AA 1 0) (AA 2 0) la lb (AA 6 0) (AA 5 0) ++ (SW κ (AA 1) f ++ (HO κ (AA 2) hf nx ct ++ (hW κ Hs gh 10 ++ (SW κ (AA 3) g1 ++ (SO la (AA 3 0) f1 ++ (SW κ (AA 4) g2 ++ (SO lb (AA 4 0) f2 ++ (OW κ (AA 5) no ot ++ (SW κ (AA 7) gp ++ PW κ (AA 6) (AA 7) eo v tx))))))))))))) pmM (fun u2 => pmM.symm) rfl (Nat.le_of_ble_eq_true rfl) dL_law_1311 ⟨by show _ ≤ 601024; omega, by show _ ≤ 7293034; omega⟩ (fun u2 hu2 => ?_)
  refine z_istore C [(6, .int ((nI (spd σ b)))), (5, .int (nI 0)), (0, .ref (sc)), (1, .ref (ra)), (2, .ref (Ad 0)), (3, .ref (oa)), (4, .int (nI i))] dL_law_1314 (by decide) rfl ?_
  refine z_aload_n C dL_law_1316 4 rfl ?_
  refine z_callV C (mX6_thrown l D κ Ad eo ip (upN w 1 0) σ aw (hiF h) (hiF s2) ot) gL_law_X6_thrown rfl rfl rfl hdX6_thrown ⟨(Nat.le_of_ble_eq_true rfl), (Nat.le_of_ble_eq_true rfl)⟩ 0 rfl rfl _ (fun _ => OUTW κ oa (vp_updL fo 0 (((nI (spd σ b))).toInt64)) ++ (MW κ Ad eo ip (upN w 1 0) σ aw (hiF h) (hiF s2) ot ++ (SW κ (AA 0) g ++ (RC ra (AA 0 0) (AA 1 0) (AA 2 0) la lb (AA 6 0) (AA 5 0) ++ (SW κ (AA 1) f ++ (HO κ (AA 2) hf nx ct ++ (hW κ Hs gh 10 ++ (SW κ (AA 3) g1 ++ (SO la (AA 3 0) f1 ++ (SW κ (AA 4) g2 ++ (SO lb (AA 4 0) f2 ++ (OW κ (AA 5) no ot ++ (SW κ (AA 7) gp ++ PW κ (AA 6) (AA 7) eo v tx))))))))))))) pmM (fun _ => pmM.symm) rfl (Nat.le_of_ble_eq_true rfl) dL_law_1317 ⟨by show _ ≤ 601024; omega, by show _ ≤ 7293034; omega⟩ (fun _ _ => ?_)
  refine z_iload C dL_law_1320 1 rfl ?_
  refine z_icmpE C 1327 rfl dL_law_1322 (by decide) ?_
  refine z_iload C dL_law_1327 1 rfl ?_
  refine z_if_ne C 1344 dL_law_1329 (by decide) (fun q => absurd (by decide) q) (fun _ => ?_)
  refine z_aload_n C dL_law_1332 5 rfl ?_
  refine z_iconst (v := nI 0) C dL_law_1333 (by decide) ?_
  refine z_lald C 0 4 rfl rfl (i := 0) (by decide) (by decide) dL_law_1334 ?_
  refine z_iload C dL_law_1335 0 rfl ?_
  refine z_i2l C dL_law_1337 rfl ?_
  refine z_lcmpE C (updL_0) dL_law_1338 ?_
  refine z_if_eq C 1344 dL_law_1339 (by decide) (fun _ => ?_) (fun q => absurd (by decide) q)
  refine z_goto (tgt := 2685) C dL_law_1344 (by decide) ?_
  refine z_lv [2, 3, 4, 5, 6] rfl ?_
  exact K (vp_updL fo 0 (((nI (spd σ b))).toInt64)) g f g1 g2 gp gh nx ct f1 f2 no ot eo v tx ip (upN w 1 0) σ aw h s2 cells slots (by omega) (by omega) ((H.mono (by omega) (by omega)).w1 _)
set_option maxRecDepth 100000 in
set_option maxHeartbeats 8000000 in
theorem lc_24_no (C : zC p s m args c cL_law 9 wsL_law RL D (zTy κ) A) (hXc : aX adK adV A s s.heap) (hls : l.stackTraces = false) (hX : va_X sc L xs s s.heap) (hb0 : sc < s.heap.size) (hA0 : ¬ A sc) (hhf : ∀ j, j < 10 → hf j = some (Hs j 0)) (hi6 : i + 6 ≤ L) (hL : L ≤ 3072) (hcr : cells + 1 ≤ 601024 ∧ slots + 6 ≤ 7293034) (H : LI M g g1 g2 gh nx ct f1 f2 no v tx ip w σ h s2) (hM1 : 700000 ≤ M) (hM : M ≤ 1400000) (K : LGO p l e s m args below meth c D A Q sc κ ra la lb oa Ad AA Hs hf 2685 (M + 1200) i (cells + 1) (slots + 6)) (x : Int32) (hx : isB (σ 2) x = false) (hx19 : xs (i + 1) = x) : zW p l e RML s m args below meth c 9 D A cells slots Q (LAWW κ ra la lb oa Ad AA Hs hf fo g f g1 g2 gp gh nx ct f1 f2 no ot eo v tx ip w σ aw h s2) [(0, .ref (sc)), (1, .ref (ra)), (2, .ref (Ad 0)), (3, .ref (oa)), (4, .int (nI i))] 1291 [] := by
  obtain ⟨hr, hv, ht0⟩ := id H.1
  obtain ⟨hnx, hct, h5, -⟩ := id H.2.1
  obtain ⟨q1, q2, h7, -, -⟩ := id H.2.2.1
  obtain ⟨v1, hw9, v2, ht⟩ := id H.2.2.2.1
  obtain ⟨hno, hn64⟩ := id H.2.2.2.2
  have n1 := hv.n1
  have n2 := hv.n2
  refine z_aload_n C dL_law_1291 1 rfl ?_
  refine z_aload_n C dL_law_1292 0 rfl ?_
  refine z_iload C dL_law_1293 4 rfl ?_
  refine z_iconst (v := nI 1) C dL_law_1295 (by decide) ?_
  refine zn_iadd C dL_law_1296 ?_
  refine z_sld C hX hb0 hA0 (i := i + 1) (by omega) (by omega) hx19 dL_law_1297 ?_
  refine z_aload_n C dL_law_1298 3 rfl ?_
  refine zh_callS C (aX_ok adK adV) hXc (mL_speedOf_no l D κ adK adV (AA 0) g ra (AA 1 0) (AA 2 0) la lb (AA 6 0) (AA 5 0) σ M x hls hr hv hx oa fo) gL_law_L_speedOf rfl rfl rfl hdL_speedOf ⟨(Nat.le_of_ble_eq_true rfl), (Nat.le_of_ble_eq_true rfl)⟩ _ (fun u1 => OUTW κ oa fo ++ (MW κ Ad eo ip w σ aw (hiF h) (hiF s2) ot ++ (SW κ (AA 0) g ++ (RC ra (AA 0 0) (AA 1 0) (AA 2 0) la lb (AA 6 0) (AA 5 0) ++ (SW κ (AA 1) f ++ (HO κ (AA 2) hf nx ct ++ (hW κ Hs gh 10 ++ (SW κ (AA 3) g1 ++ (SO la (AA 3 0) f1 ++ (SW κ (AA 4) g2 ++ (SO lb (AA 4 0) f2 ++ (OW κ (AA 5) no ot ++ (SW κ (AA 7) gp ++ PW κ (AA 6) (AA 7) eo v tx))))))))))))) pmH_S (fun u1 => pmH_S.symm) rfl (Nat.le_of_ble_eq_true rfl) dL_law_1299 ⟨by show _ ≤ 601024; omega, by show _ ≤ 7293034; omega⟩ (fun u1 hu1 => ?_)
  refine z_istore C [(5, .int (nI 1)), (0, .ref (sc)), (1, .ref (ra)), (2, .ref (Ad 0)), (3, .ref (oa)), (4, .int (nI i))] dL_law_1302 (by decide) rfl ?_
  refine z_aload_n C dL_law_1304 3 rfl ?_
  refine z_aload_n C dL_law_1305 1 rfl ?_
  refine z_iload C dL_law_1306 5 rfl ?_
  refine z_iconst (v := nI 1) C dL_law_1308 (by decide) ?_
  refine zn_iadd C dL_law_1309 ?_
  refine z_sld C hX hb0 hA0 (i := i + 1) (by omega) (by omega) hx19 dL_law_1310 ?_
  refine z_callV C (mX6_speedOf_no l D κ Ad eo ip w σ aw (hiF h) (hiF s2) ot M x hv.1 hx) gL_law_X6_speedOf rfl rfl rfl hdX6_speedOf ⟨(Nat.le_of_ble_eq_true rfl), (Nat.le_of_ble_eq_true rfl)⟩ 0 rfl rfl _ (fun u2 => OUTW κ oa fo ++ (MW κ Ad eo ip (upN w 1 1) σ aw (hiF h) (hiF s2) ot ++ (SW κ (AA 0) g ++ (RC ra (AA 0 0) (AA 1 0) (AA 2 0) la lb (AA 6 0) (AA 5 0) ++ (SW κ (AA 1) f ++ (HO κ (AA 2) hf nx ct ++ (hW κ Hs gh 10 ++ (SW κ (AA 3) g1 ++ (SO la (AA 3 0) f1 ++ (SW κ (AA 4) g2 ++ (SO lb (AA 4 0) f2 ++ (OW κ (AA 5) no ot ++ (SW κ (AA 7) gp ++ PW κ (AA 6) (AA 7) eo v tx))))))))))))) pmM (fun u2 => pmM.symm) rfl (Nat.le_of_ble_eq_true rfl) dL_law_1311 ⟨by show _ ≤ 601024; omega, by show _ ≤ 7293034; omega⟩ (fun u2 hu2 => ?_)
  refine z_istore C [(6, .int ((nI 0))), (5, .int (nI 1)), (0, .ref (sc)), (1, .ref (ra)), (2, .ref (Ad 0)), (3, .ref (oa)), (4, .int (nI i))] dL_law_1314 (by decide) rfl ?_
  refine z_aload_n C dL_law_1316 4 rfl ?_
  refine z_callV C (mX6_thrown l D κ Ad eo ip (upN w 1 1) σ aw (hiF h) (hiF s2) ot) gL_law_X6_thrown rfl rfl rfl hdX6_thrown ⟨(Nat.le_of_ble_eq_true rfl), (Nat.le_of_ble_eq_true rfl)⟩ 0 rfl rfl _ (fun _ => OUTW κ oa fo ++ (MW κ Ad eo ip (upN w 1 1) σ aw (hiF h) (hiF s2) ot ++ (SW κ (AA 0) g ++ (RC ra (AA 0 0) (AA 1 0) (AA 2 0) la lb (AA 6 0) (AA 5 0) ++ (SW κ (AA 1) f ++ (HO κ (AA 2) hf nx ct ++ (hW κ Hs gh 10 ++ (SW κ (AA 3) g1 ++ (SO la (AA 3 0) f1 ++ (SW κ (AA 4) g2 ++ (SO lb (AA 4 0) f2 ++ (OW κ (AA 5) no ot ++ (SW κ (AA 7) gp ++ PW κ (AA 6) (AA 7) eo v tx))))))))))))) pmM (fun _ => pmM.symm) rfl (Nat.le_of_ble_eq_true rfl) dL_law_1317 ⟨by show _ ≤ 601024; omega, by show _ ≤ 7293034; omega⟩ (fun _ _ => ?_)
  refine z_iload C dL_law_1320 1 rfl ?_
  refine z_icmpE C 1327 rfl dL_law_1322 (by decide) ?_
  refine z_iload C dL_law_1327 1 rfl ?_
  refine z_if_ne C 1344 dL_law_1329 (by decide) (fun _ => ?_) (fun q => absurd q (by decide))
  refine z_goto (tgt := 2685) C dL_law_1344 (by decide) ?_
  refine z_lv [2, 3, 4, 5, 6] rfl ?_
  exact K fo g f g1 g2 gp gh nx ct f1 f2 no ot eo v tx ip (upN w 1 1) σ aw h s2 (cells + 1) (slots + 6) (by omega) (by omega) ((H.mono (by omega) (by omega)).w1 _)
set_option maxRecDepth 100000 in
set_option maxHeartbeats 8000000 in
theorem lc_25_ok (C : zC p s m args c cL_law 9 wsL_law RL D (zTy κ) A) (hXc : aX adK adV A s s.heap) (hls : l.stackTraces = false) (hX : va_X sc L xs s s.heap) (hb0 : sc < s.heap.size) (hA0 : ¬ A sc) (hhf : ∀ j, j < 10 → hf j = some (Hs j 0)) (hi6 : i + 6 ≤ L) (hL : L ≤ 3072) (hcr : cells + 1 ≤ 601024 ∧ slots + 6 ≤ 7293034) (H : LI M g g1 g2 gh nx ct f1 f2 no v tx ip w σ h s2) (hM1 : 700000 ≤ M) (hM : M ≤ 1400000) (K : LGO p l e s m args below meth c D A Q sc κ ra la lb oa Ad AA Hs hf 2685 (M + 1200) i (cells + 1) (slots + 6)) (b : Nat) (hb : b < σ 2) (hx19 : xs (i + 1) = nI b) : zW p l e RML s m args below meth c 9 D A cells slots Q (LAWW κ ra la lb oa Ad AA Hs hf fo g f g1 g2 gp gh nx ct f1 f2 no ot eo v tx ip w σ aw h s2) [(0, .ref (sc)), (1, .ref (ra)), (2, .ref (Ad 0)), (3, .ref (oa)), (4, .int (nI i))] 1347 [] := by
  obtain ⟨hr, hv, ht0⟩ := id H.1
  obtain ⟨hnx, hct, h5, -⟩ := id H.2.1
  obtain ⟨q1, q2, h7, -, -⟩ := id H.2.2.1
  obtain ⟨v1, hw9, v2, ht⟩ := id H.2.2.2.1
  obtain ⟨hno, hn64⟩ := id H.2.2.2.2
  have n1 := hv.n1
  have n2 := hv.n2
  refine z_aload_n C dL_law_1347 1 rfl ?_
  refine z_aload_n C dL_law_1348 0 rfl ?_
  refine z_iload C dL_law_1349 4 rfl ?_
  refine z_iconst (v := nI 1) C dL_law_1351 (by decide) ?_
  refine zn_iadd C dL_law_1352 ?_
  refine z_sld C hX hb0 hA0 (i := i + 1) (by omega) (by omega) hx19 dL_law_1353 ?_
  refine z_aload_n C dL_law_1354 3 rfl ?_
  refine zh_callS C (aX_ok adK adV) hXc (mL_waitsOf_ok l D κ (AA 0) g ra (AA 1 0) (AA 2 0) la lb (AA 6 0) (AA 5 0) σ M b hr hv hb adK adV oa fo) gL_law_L_waitsOf rfl rfl rfl hdL_waitsOf ⟨(Nat.le_of_ble_eq_true rfl), (Nat.le_of_ble_eq_true rfl)⟩ _ (fun u1 => OUTW κ oa (vp_updL fo 0 (((nI (σ (65 + 5 * b + 4)))).toInt64)) ++ (MW κ Ad eo ip w σ aw (hiF h) (hiF s2) ot ++ (SW κ (AA 0) g ++ (RC ra (AA 0 0) (AA 1 0) (AA 2 0) la lb (AA 6 0) (AA 5 0) ++ (SW κ (AA 1) f ++ (HO κ (AA 2) hf nx ct ++ (hW κ Hs gh 10 ++ (SW κ (AA 3) g1 ++ (SO la (AA 3 0) f1 ++ (SW κ (AA 4) g2 ++ (SO lb (AA 4 0) f2 ++ (OW κ (AA 5) no ot ++ (SW κ (AA 7) gp ++ PW κ (AA 6) (AA 7) eo v tx))))))))))))) pmH_S (fun u1 => pmH_S.symm) rfl (Nat.le_of_ble_eq_true rfl) dL_law_1355 ⟨by show _ ≤ 601024; omega, by show _ ≤ 7293034; omega⟩ (fun u1 hu1 => ?_)
  refine z_istore C [(5, .int (nI 0)), (0, .ref (sc)), (1, .ref (ra)), (2, .ref (Ad 0)), (3, .ref (oa)), (4, .int (nI i))] dL_law_1358 (by decide) rfl ?_
  refine z_aload_n C dL_law_1360 3 rfl ?_
  refine z_aload_n C dL_law_1361 1 rfl ?_
  refine z_iload C dL_law_1362 5 rfl ?_
  refine z_iconst (v := nI 1) C dL_law_1364 (by decide) ?_
  refine zn_iadd C dL_law_1365 ?_
  refine z_sld C hX hb0 hA0 (i := i + 1) (by omega) (by omega) hx19 dL_law_1366 ?_
  refine z_callV C (mX6_waitsOf_ok l D κ Ad eo ip w σ aw (hiF h) (hiF s2) ot M b hv.1 (by first | assumption | omega)) gL_law_X6_waitsOf rfl rfl rfl hdX6_waitsOf ⟨(Nat.le_of_ble_eq_true rfl), (Nat.le_of_ble_eq_true rfl)⟩ 0 rfl rfl _ (fun u2 => OUTW κ oa (vp_updL fo 0 (((nI (σ (65 + 5 * b + 4)))).toInt64)) ++ (MW κ Ad eo ip (upN w 1 0) σ aw (hiF h) (hiF s2) ot ++ (SW κ (AA 0) g ++ (RC ra (AA 0 0) (AA 1 0) (AA 2 0) la lb (AA 6 0) (AA 5 0) ++ (SW κ (AA 1) f ++ (HO κ (AA 2) hf nx ct ++ (hW κ Hs gh 10 ++ (SW κ (AA 3) g1 ++ (SO la (AA 3 0) f1 ++ (SW κ (AA 4) g2 ++ (SO lb (AA 4 0) f2 ++ (OW κ (AA 5) no ot ++ (SW κ (AA 7) gp ++ PW κ (AA 6) (AA 7) eo v tx))))))))))))) pmM (fun u2 => pmM.symm) rfl (Nat.le_of_ble_eq_true rfl) dL_law_1367 ⟨by show _ ≤ 601024; omega, by show _ ≤ 7293034; omega⟩ (fun u2 hu2 => ?_)
  refine z_istore C [(6, .int ((nI (σ (65 + 5 * b + 4))))), (5, .int (nI 0)), (0, .ref (sc)), (1, .ref (ra)), (2, .ref (Ad 0)), (3, .ref (oa)), (4, .int (nI i))] dL_law_1370 (by decide) rfl ?_
  refine z_aload_n C dL_law_1372 4 rfl ?_
  refine z_callV C (mX6_thrown l D κ Ad eo ip (upN w 1 0) σ aw (hiF h) (hiF s2) ot) gL_law_X6_thrown rfl rfl rfl hdX6_thrown ⟨(Nat.le_of_ble_eq_true rfl), (Nat.le_of_ble_eq_true rfl)⟩ 0 rfl rfl _ (fun _ => OUTW κ oa (vp_updL fo 0 (((nI (σ (65 + 5 * b + 4)))).toInt64)) ++ (MW κ Ad eo ip (upN w 1 0) σ aw (hiF h) (hiF s2) ot ++ (SW κ (AA 0) g ++ (RC ra (AA 0 0) (AA 1 0) (AA 2 0) la lb (AA 6 0) (AA 5 0) ++ (SW κ (AA 1) f ++ (HO κ (AA 2) hf nx ct ++ (hW κ Hs gh 10 ++ (SW κ (AA 3) g1 ++ (SO la (AA 3 0) f1 ++ (SW κ (AA 4) g2 ++ (SO lb (AA 4 0) f2 ++ (OW κ (AA 5) no ot ++ (SW κ (AA 7) gp ++ PW κ (AA 6) (AA 7) eo v tx))))))))))))) pmM (fun _ => pmM.symm) rfl (Nat.le_of_ble_eq_true rfl) dL_law_1373 ⟨by show _ ≤ 601024; omega, by show _ ≤ 7293034; omega⟩ (fun _ _ => ?_)
  refine z_iload C dL_law_1376 1 rfl ?_
  refine z_icmpE C 1383 rfl dL_law_1378 (by decide) ?_
  refine z_iload C dL_law_1383 1 rfl ?_
  refine z_if_ne C 1400 dL_law_1385 (by decide) (fun q => absurd (by decide) q) (fun _ => ?_)
  refine z_aload_n C dL_law_1388 5 rfl ?_
  refine z_iconst (v := nI 0) C dL_law_1389 (by decide) ?_
  refine z_lald C 0 4 rfl rfl (i := 0) (by decide) (by decide) dL_law_1390 ?_
  refine z_iload C dL_law_1391 0 rfl ?_
  refine z_i2l C dL_law_1393 rfl ?_
  refine z_lcmpE C (updL_0) dL_law_1394 ?_
  refine z_if_eq C 1400 dL_law_1395 (by decide) (fun _ => ?_) (fun q => absurd (by decide) q)
  refine z_goto (tgt := 2685) C dL_law_1400 (by decide) ?_
  refine z_lv [2, 3, 4, 5, 6] rfl ?_
  exact K (vp_updL fo 0 (((nI (σ (65 + 5 * b + 4)))).toInt64)) g f g1 g2 gp gh nx ct f1 f2 no ot eo v tx ip (upN w 1 0) σ aw h s2 cells slots (by omega) (by omega) ((H.mono (by omega) (by omega)).w1 _)
set_option maxRecDepth 100000 in
set_option maxHeartbeats 8000000 in
theorem lc_25_no (C : zC p s m args c cL_law 9 wsL_law RL D (zTy κ) A) (hXc : aX adK adV A s s.heap) (hls : l.stackTraces = false) (hX : va_X sc L xs s s.heap) (hb0 : sc < s.heap.size) (hA0 : ¬ A sc) (hhf : ∀ j, j < 10 → hf j = some (Hs j 0)) (hi6 : i + 6 ≤ L) (hL : L ≤ 3072) (hcr : cells + 1 ≤ 601024 ∧ slots + 6 ≤ 7293034) (H : LI M g g1 g2 gh nx ct f1 f2 no v tx ip w σ h s2) (hM1 : 700000 ≤ M) (hM : M ≤ 1400000) (K : LGO p l e s m args below meth c D A Q sc κ ra la lb oa Ad AA Hs hf 2685 (M + 1200) i (cells + 1) (slots + 6)) (x : Int32) (hx : isB (σ 2) x = false) (hx19 : xs (i + 1) = x) : zW p l e RML s m args below meth c 9 D A cells slots Q (LAWW κ ra la lb oa Ad AA Hs hf fo g f g1 g2 gp gh nx ct f1 f2 no ot eo v tx ip w σ aw h s2) [(0, .ref (sc)), (1, .ref (ra)), (2, .ref (Ad 0)), (3, .ref (oa)), (4, .int (nI i))] 1347 [] := by
  obtain ⟨hr, hv, ht0⟩ := id H.1
  obtain ⟨hnx, hct, h5, -⟩ := id H.2.1
  obtain ⟨q1, q2, h7, -, -⟩ := id H.2.2.1
  obtain ⟨v1, hw9, v2, ht⟩ := id H.2.2.2.1
  obtain ⟨hno, hn64⟩ := id H.2.2.2.2
  have n1 := hv.n1
  have n2 := hv.n2
  refine z_aload_n C dL_law_1347 1 rfl ?_
  refine z_aload_n C dL_law_1348 0 rfl ?_
  refine z_iload C dL_law_1349 4 rfl ?_
  refine z_iconst (v := nI 1) C dL_law_1351 (by decide) ?_
  refine zn_iadd C dL_law_1352 ?_
  refine z_sld C hX hb0 hA0 (i := i + 1) (by omega) (by omega) hx19 dL_law_1353 ?_
  refine z_aload_n C dL_law_1354 3 rfl ?_
  refine zh_callS C (aX_ok adK adV) hXc (mL_waitsOf_no l D κ adK adV (AA 0) g ra (AA 1 0) (AA 2 0) la lb (AA 6 0) (AA 5 0) σ M x hls hr hv hx oa fo) gL_law_L_waitsOf rfl rfl rfl hdL_waitsOf ⟨(Nat.le_of_ble_eq_true rfl), (Nat.le_of_ble_eq_true rfl)⟩ _ (fun u1 => OUTW κ oa fo ++ (MW κ Ad eo ip w σ aw (hiF h) (hiF s2) ot ++ (SW κ (AA 0) g ++ (RC ra (AA 0 0) (AA 1 0) (AA 2 0) la lb (AA 6 0) (AA 5 0) ++ (SW κ (AA 1) f ++ (HO κ (AA 2) hf nx ct ++ (hW κ Hs gh 10 ++ (SW κ (AA 3) g1 ++ (SO la (AA 3 0) f1 ++ (SW κ (AA 4) g2 ++ (SO lb (AA 4 0) f2 ++ (OW κ (AA 5) no ot ++ (SW κ (AA 7) gp ++ PW κ (AA 6) (AA 7) eo v tx))))))))))))) pmH_S (fun u1 => pmH_S.symm) rfl (Nat.le_of_ble_eq_true rfl) dL_law_1355 ⟨by show _ ≤ 601024; omega, by show _ ≤ 7293034; omega⟩ (fun u1 hu1 => ?_)
  refine z_istore C [(5, .int (nI 1)), (0, .ref (sc)), (1, .ref (ra)), (2, .ref (Ad 0)), (3, .ref (oa)), (4, .int (nI i))] dL_law_1358 (by decide) rfl ?_
  refine z_aload_n C dL_law_1360 3 rfl ?_
  refine z_aload_n C dL_law_1361 1 rfl ?_
  refine z_iload C dL_law_1362 5 rfl ?_
  refine z_iconst (v := nI 1) C dL_law_1364 (by decide) ?_
  refine zn_iadd C dL_law_1365 ?_
  refine z_sld C hX hb0 hA0 (i := i + 1) (by omega) (by omega) hx19 dL_law_1366 ?_
  refine z_callV C (mX6_waitsOf_no l D κ Ad eo ip w σ aw (hiF h) (hiF s2) ot M x hv.1 hx) gL_law_X6_waitsOf rfl rfl rfl hdX6_waitsOf ⟨(Nat.le_of_ble_eq_true rfl), (Nat.le_of_ble_eq_true rfl)⟩ 0 rfl rfl _ (fun u2 => OUTW κ oa fo ++ (MW κ Ad eo ip (upN w 1 1) σ aw (hiF h) (hiF s2) ot ++ (SW κ (AA 0) g ++ (RC ra (AA 0 0) (AA 1 0) (AA 2 0) la lb (AA 6 0) (AA 5 0) ++ (SW κ (AA 1) f ++ (HO κ (AA 2) hf nx ct ++ (hW κ Hs gh 10 ++ (SW κ (AA 3) g1 ++ (SO la (AA 3 0) f1 ++ (SW κ (AA 4) g2 ++ (SO lb (AA 4 0) f2 ++ (OW κ (AA 5) no ot ++ (SW κ (AA 7) gp ++ PW κ (AA 6) (AA 7) eo v tx))))))))))))) pmM (fun u2 => pmM.symm) rfl (Nat.le_of_ble_eq_true rfl) dL_law_1367 ⟨by show _ ≤ 601024; omega, by show _ ≤ 7293034; omega⟩ (fun u2 hu2 => ?_)
  refine z_istore C [(6, .int ((nI 0))), (5, .int (nI 1)), (0, .ref (sc)), (1, .ref (ra)), (2, .ref (Ad 0)), (3, .ref (oa)), (4, .int (nI i))] dL_law_1370 (by decide) rfl ?_
  refine z_aload_n C dL_law_1372 4 rfl ?_
  refine z_callV C (mX6_thrown l D κ Ad eo ip (upN w 1 1) σ aw (hiF h) (hiF s2) ot) gL_law_X6_thrown rfl rfl rfl hdX6_thrown ⟨(Nat.le_of_ble_eq_true rfl), (Nat.le_of_ble_eq_true rfl)⟩ 0 rfl rfl _ (fun _ => OUTW κ oa fo ++ (MW κ Ad eo ip (upN w 1 1) σ aw (hiF h) (hiF s2) ot ++ (SW κ (AA 0) g ++ (RC ra (AA 0 0) (AA 1 0) (AA 2 0) la lb (AA 6 0) (AA 5 0) ++ (SW κ (AA 1) f ++ (HO κ (AA 2) hf nx ct ++ (hW κ Hs gh 10 ++ (SW κ (AA 3) g1 ++ (SO la (AA 3 0) f1 ++ (SW κ (AA 4) g2 ++ (SO lb (AA 4 0) f2 ++ (OW κ (AA 5) no ot ++ (SW κ (AA 7) gp ++ PW κ (AA 6) (AA 7) eo v tx))))))))))))) pmM (fun _ => pmM.symm) rfl (Nat.le_of_ble_eq_true rfl) dL_law_1373 ⟨by show _ ≤ 601024; omega, by show _ ≤ 7293034; omega⟩ (fun _ _ => ?_)
  refine z_iload C dL_law_1376 1 rfl ?_
  refine z_icmpE C 1383 rfl dL_law_1378 (by decide) ?_
  refine z_iload C dL_law_1383 1 rfl ?_
  refine z_if_ne C 1400 dL_law_1385 (by decide) (fun _ => ?_) (fun q => absurd q (by decide))
  refine z_goto (tgt := 2685) C dL_law_1400 (by decide) ?_
  refine z_lv [2, 3, 4, 5, 6] rfl ?_
  exact K fo g f g1 g2 gp gh nx ct f1 f2 no ot eo v tx ip (upN w 1 1) σ aw h s2 (cells + 1) (slots + 6) (by omega) (by omega) ((H.mono (by omega) (by omega)).w1 _)
set_option maxRecDepth 100000 in
set_option maxHeartbeats 8000000 in
theorem lc_26_ok (C : zC p s m args c cL_law 9 wsL_law RL D (zTy κ) A) (hXc : aX adK adV A s s.heap) (hls : l.stackTraces = false) (hX : va_X sc L xs s s.heap) (hb0 : sc < s.heap.size) (hA0 : ¬ A sc) (hhf : ∀ j, j < 10 → hf j = some (Hs j 0)) (hi6 : i + 6 ≤ L) (hL : L ≤ 3072) (hcr : cells + 1 ≤ 601024 ∧ slots + 6 ≤ 7293034) (H : LI M g g1 g2 gh nx ct f1 f2 no v tx ip w σ h s2) (hM1 : 700000 ≤ M) (hM : M ≤ 1400000) (K : LGO p l e s m args below meth c D A Q sc κ ra la lb oa Ad AA Hs hf 2685 (M + 1200) i (cells + 1) (slots + 6)) (b : Nat) (q : Nat) (hb : b < σ 2) (hq : q < σ 1) (hx19 : xs (i + 1) = nI b) (hx29 : xs (i + 2) = nI q) : zW p l e RML s m args below meth c 9 D A cells slots Q (LAWW κ ra la lb oa Ad AA Hs hf fo g f g1 g2 gp gh nx ct f1 f2 no ot eo v tx ip w σ aw h s2) [(0, .ref (sc)), (1, .ref (ra)), (2, .ref (Ad 0)), (3, .ref (oa)), (4, .int (nI i))] 1403 [] := by
  obtain ⟨hr, hv, ht0⟩ := id H.1
  obtain ⟨hnx, hct, h5, -⟩ := id H.2.1
  obtain ⟨q1, q2, h7, -, -⟩ := id H.2.2.1
  obtain ⟨v1, hw9, v2, ht⟩ := id H.2.2.2.1
  obtain ⟨hno, hn64⟩ := id H.2.2.2.2
  have n1 := hv.n1
  have n2 := hv.n2
  refine z_aload_n C dL_law_1403 1 rfl ?_
  refine z_aload_n C dL_law_1404 0 rfl ?_
  refine z_iload C dL_law_1405 4 rfl ?_
  refine z_iconst (v := nI 1) C dL_law_1407 (by decide) ?_
  refine zn_iadd C dL_law_1408 ?_
  refine z_sld C hX hb0 hA0 (i := i + 1) (by omega) (by omega) hx19 dL_law_1409 ?_
  refine z_aload_n C dL_law_1410 0 rfl ?_
  refine z_iload C dL_law_1411 4 rfl ?_
  refine z_iconst (v := nI 2) C dL_law_1413 (by decide) ?_
  refine zn_iadd C dL_law_1414 ?_
  refine z_sld C hX hb0 hA0 (i := i + 2) (by omega) (by omega) hx29 dL_law_1415 ?_
  refine z_aload_n C dL_law_1416 3 rfl ?_
  refine zh_callS C (aX_ok adK adV) hXc (mL_passages_ok l D κ (AA 0) g ra (AA 1 0) (AA 2 0) la lb (AA 6 0) (AA 5 0) σ M b q hr hv hb hq adK adV oa fo) gL_law_L_passages rfl rfl rfl hdL_passages ⟨(Nat.le_of_ble_eq_true rfl), (Nat.le_of_ble_eq_true rfl)⟩ _ (fun u1 => OUTW κ oa (vp_updL fo 0 (((nI (σ (90 + 10 * b + q)))).toInt64)) ++ (MW κ Ad eo ip w σ aw (hiF h) (hiF s2) ot ++ (SW κ (AA 0) g ++ (RC ra (AA 0 0) (AA 1 0) (AA 2 0) la lb (AA 6 0) (AA 5 0) ++ (SW κ (AA 1) f ++ (HO κ (AA 2) hf nx ct ++ (hW κ Hs gh 10 ++ (SW κ (AA 3) g1 ++ (SO la (AA 3 0) f1 ++ (SW κ (AA 4) g2 ++ (SO lb (AA 4 0) f2 ++ (OW κ (AA 5) no ot ++ (SW κ (AA 7) gp ++ PW κ (AA 6) (AA 7) eo v tx))))))))))))) pmH_S (fun u1 => pmH_S.symm) rfl (Nat.le_of_ble_eq_true rfl) dL_law_1417 ⟨by show _ ≤ 601024; omega, by show _ ≤ 7293034; omega⟩ (fun u1 hu1 => ?_)
  refine z_istore C [(5, .int (nI 0)), (0, .ref (sc)), (1, .ref (ra)), (2, .ref (Ad 0)), (3, .ref (oa)), (4, .int (nI i))] dL_law_1420 (by decide) rfl ?_
  refine z_aload_n C dL_law_1422 3 rfl ?_
  refine z_aload_n C dL_law_1423 1 rfl ?_
  refine z_iload C dL_law_1424 5 rfl ?_
  refine z_iconst (v := nI 1) C dL_law_1426 (by decide) ?_
  refine zn_iadd C dL_law_1427 ?_
  refine z_sld C hX hb0 hA0 (i := i + 1) (by omega) (by omega) hx19 dL_law_1428 ?_
  refine z_aload_n C dL_law_1429 1 rfl ?_
  refine z_iload C dL_law_1430 5 rfl ?_
  refine z_iconst (v := nI 2) C dL_law_1432 (by decide) ?_
  refine zn_iadd C dL_law_1433 ?_
  refine z_sld C hX hb0 hA0 (i := i + 2) (by omega) (by omega) hx29 dL_law_1434 ?_
  refine z_callV C (mX6_passages_ok l D κ Ad eo ip w σ aw (hiF h) (hiF s2) ot M b q hv.1 (by first | assumption | omega) (by first | assumption | omega)) gL_law_X6_passages rfl rfl rfl hdX6_passages ⟨(Nat.le_of_ble_eq_true rfl), (Nat.le_of_ble_eq_true rfl)⟩ 0 rfl rfl _ (fun u2 => OUTW κ oa (vp_updL fo 0 (((nI (σ (90 + 10 * b + q)))).toInt64)) ++ (MW κ Ad eo ip (upN w 1 0) σ aw (hiF h) (hiF s2) ot ++ (SW κ (AA 0) g ++ (RC ra (AA 0 0) (AA 1 0) (AA 2 0) la lb (AA 6 0) (AA 5 0) ++ (SW κ (AA 1) f ++ (HO κ (AA 2) hf nx ct ++ (hW κ Hs gh 10 ++ (SW κ (AA 3) g1 ++ (SO la (AA 3 0) f1 ++ (SW κ (AA 4) g2 ++ (SO lb (AA 4 0) f2 ++ (OW κ (AA 5) no ot ++ (SW κ (AA 7) gp ++ PW κ (AA 6) (AA 7) eo v tx))))))))))))) pmM (fun u2 => pmM.symm) rfl (Nat.le_of_ble_eq_true rfl) dL_law_1435 ⟨by show _ ≤ 601024; omega, by show _ ≤ 7293034; omega⟩ (fun u2 hu2 => ?_)
  refine z_istore C [(6, .int ((nI (σ (90 + 10 * b + q))))), (5, .int (nI 0)), (0, .ref (sc)), (1, .ref (ra)), (2, .ref (Ad 0)), (3, .ref (oa)), (4, .int (nI i))] dL_law_1438 (by decide) rfl ?_
  refine z_aload_n C dL_law_1440 4 rfl ?_
  refine z_callV C (mX6_thrown l D κ Ad eo ip (upN w 1 0) σ aw (hiF h) (hiF s2) ot) gL_law_X6_thrown rfl rfl rfl hdX6_thrown ⟨(Nat.le_of_ble_eq_true rfl), (Nat.le_of_ble_eq_true rfl)⟩ 0 rfl rfl _ (fun _ => OUTW κ oa (vp_updL fo 0 (((nI (σ (90 + 10 * b + q)))).toInt64)) ++ (MW κ Ad eo ip (upN w 1 0) σ aw (hiF h) (hiF s2) ot ++ (SW κ (AA 0) g ++ (RC ra (AA 0 0) (AA 1 0) (AA 2 0) la lb (AA 6 0) (AA 5 0) ++ (SW κ (AA 1) f ++ (HO κ (AA 2) hf nx ct ++ (hW κ Hs gh 10 ++ (SW κ (AA 3) g1 ++ (SO la (AA 3 0) f1 ++ (SW κ (AA 4) g2 ++ (SO lb (AA 4 0) f2 ++ (OW κ (AA 5) no ot ++ (SW κ (AA 7) gp ++ PW κ (AA 6) (AA 7) eo v tx))))))))))))) pmM (fun _ => pmM.symm) rfl (Nat.le_of_ble_eq_true rfl) dL_law_1441 ⟨by show _ ≤ 601024; omega, by show _ ≤ 7293034; omega⟩ (fun _ _ => ?_)
  refine z_iload C dL_law_1444 1 rfl ?_
  refine z_icmpE C 1451 rfl dL_law_1446 (by decide) ?_
  refine z_iload C dL_law_1451 1 rfl ?_
  refine z_if_ne C 1468 dL_law_1453 (by decide) (fun q => absurd (by decide) q) (fun _ => ?_)
  refine z_aload_n C dL_law_1456 5 rfl ?_
  refine z_iconst (v := nI 0) C dL_law_1457 (by decide) ?_
  refine z_lald C 0 4 rfl rfl (i := 0) (by decide) (by decide) dL_law_1458 ?_
  refine z_iload C dL_law_1459 0 rfl ?_
  refine z_i2l C dL_law_1461 rfl ?_
  refine z_lcmpE C (updL_0) dL_law_1462 ?_
  refine z_if_eq C 1468 dL_law_1463 (by decide) (fun _ => ?_) (fun q => absurd (by decide) q)
  refine z_goto (tgt := 2685) C dL_law_1468 (by decide) ?_
  refine z_lv [2, 3, 4, 5, 6] rfl ?_
  exact K (vp_updL fo 0 (((nI (σ (90 + 10 * b + q)))).toInt64)) g f g1 g2 gp gh nx ct f1 f2 no ot eo v tx ip (upN w 1 0) σ aw h s2 cells slots (by omega) (by omega) ((H.mono (by omega) (by omega)).w1 _)
set_option maxRecDepth 100000 in
set_option maxHeartbeats 8000000 in
theorem lc_26_no (C : zC p s m args c cL_law 9 wsL_law RL D (zTy κ) A) (hXc : aX adK adV A s s.heap) (hls : l.stackTraces = false) (hX : va_X sc L xs s s.heap) (hb0 : sc < s.heap.size) (hA0 : ¬ A sc) (hhf : ∀ j, j < 10 → hf j = some (Hs j 0)) (hi6 : i + 6 ≤ L) (hL : L ≤ 3072) (hcr : cells + 1 ≤ 601024 ∧ slots + 6 ≤ 7293034) (H : LI M g g1 g2 gh nx ct f1 f2 no v tx ip w σ h s2) (hM1 : 700000 ≤ M) (hM : M ≤ 1400000) (K : LGO p l e s m args below meth c D A Q sc κ ra la lb oa Ad AA Hs hf 2685 (M + 1200) i (cells + 1) (slots + 6)) (x : Int32) (y : Int32) (hx : isB (σ 2) x = false) (hx19 : xs (i + 1) = x) (hx29 : xs (i + 2) = y) : zW p l e RML s m args below meth c 9 D A cells slots Q (LAWW κ ra la lb oa Ad AA Hs hf fo g f g1 g2 gp gh nx ct f1 f2 no ot eo v tx ip w σ aw h s2) [(0, .ref (sc)), (1, .ref (ra)), (2, .ref (Ad 0)), (3, .ref (oa)), (4, .int (nI i))] 1403 [] := by
  obtain ⟨hr, hv, ht0⟩ := id H.1
  obtain ⟨hnx, hct, h5, -⟩ := id H.2.1
  obtain ⟨q1, q2, h7, -, -⟩ := id H.2.2.1
  obtain ⟨v1, hw9, v2, ht⟩ := id H.2.2.2.1
  obtain ⟨hno, hn64⟩ := id H.2.2.2.2
  have n1 := hv.n1
  have n2 := hv.n2
  refine z_aload_n C dL_law_1403 1 rfl ?_
  refine z_aload_n C dL_law_1404 0 rfl ?_
  refine z_iload C dL_law_1405 4 rfl ?_
  refine z_iconst (v := nI 1) C dL_law_1407 (by decide) ?_
  refine zn_iadd C dL_law_1408 ?_
  refine z_sld C hX hb0 hA0 (i := i + 1) (by omega) (by omega) hx19 dL_law_1409 ?_
  refine z_aload_n C dL_law_1410 0 rfl ?_
  refine z_iload C dL_law_1411 4 rfl ?_
  refine z_iconst (v := nI 2) C dL_law_1413 (by decide) ?_
  refine zn_iadd C dL_law_1414 ?_
  refine z_sld C hX hb0 hA0 (i := i + 2) (by omega) (by omega) hx29 dL_law_1415 ?_
  refine z_aload_n C dL_law_1416 3 rfl ?_
  refine zh_callS C (aX_ok adK adV) hXc (mL_passages_no l D κ adK adV (AA 0) g ra (AA 1 0) (AA 2 0) la lb (AA 6 0) (AA 5 0) σ M x y hls hr hv hx oa fo) gL_law_L_passages rfl rfl rfl hdL_passages ⟨(Nat.le_of_ble_eq_true rfl), (Nat.le_of_ble_eq_true rfl)⟩ _ (fun u1 => OUTW κ oa fo ++ (MW κ Ad eo ip w σ aw (hiF h) (hiF s2) ot ++ (SW κ (AA 0) g ++ (RC ra (AA 0 0) (AA 1 0) (AA 2 0) la lb (AA 6 0) (AA 5 0) ++ (SW κ (AA 1) f ++ (HO κ (AA 2) hf nx ct ++ (hW κ Hs gh 10 ++ (SW κ (AA 3) g1 ++ (SO la (AA 3 0) f1 ++ (SW κ (AA 4) g2 ++ (SO lb (AA 4 0) f2 ++ (OW κ (AA 5) no ot ++ (SW κ (AA 7) gp ++ PW κ (AA 6) (AA 7) eo v tx))))))))))))) pmH_S (fun u1 => pmH_S.symm) rfl (Nat.le_of_ble_eq_true rfl) dL_law_1417 ⟨by show _ ≤ 601024; omega, by show _ ≤ 7293034; omega⟩ (fun u1 hu1 => ?_)
  refine z_istore C [(5, .int (nI 1)), (0, .ref (sc)), (1, .ref (ra)), (2, .ref (Ad 0)), (3, .ref (oa)), (4, .int (nI i))] dL_law_1420 (by decide) rfl ?_
  refine z_aload_n C dL_law_1422 3 rfl ?_
  refine z_aload_n C dL_law_1423 1 rfl ?_
  refine z_iload C dL_law_1424 5 rfl ?_
  refine z_iconst (v := nI 1) C dL_law_1426 (by decide) ?_
  refine zn_iadd C dL_law_1427 ?_
  refine z_sld C hX hb0 hA0 (i := i + 1) (by omega) (by omega) hx19 dL_law_1428 ?_
  refine z_aload_n C dL_law_1429 1 rfl ?_
  refine z_iload C dL_law_1430 5 rfl ?_
  refine z_iconst (v := nI 2) C dL_law_1432 (by decide) ?_
  refine zn_iadd C dL_law_1433 ?_
  refine z_sld C hX hb0 hA0 (i := i + 2) (by omega) (by omega) hx29 dL_law_1434 ?_
  refine z_callV C (mX6_passages_no l D κ Ad eo ip w σ aw (hiF h) (hiF s2) ot M x y hv.1 hx) gL_law_X6_passages rfl rfl rfl hdX6_passages ⟨(Nat.le_of_ble_eq_true rfl), (Nat.le_of_ble_eq_true rfl)⟩ 0 rfl rfl _ (fun u2 => OUTW κ oa fo ++ (MW κ Ad eo ip (upN w 1 1) σ aw (hiF h) (hiF s2) ot ++ (SW κ (AA 0) g ++ (RC ra (AA 0 0) (AA 1 0) (AA 2 0) la lb (AA 6 0) (AA 5 0) ++ (SW κ (AA 1) f ++ (HO κ (AA 2) hf nx ct ++ (hW κ Hs gh 10 ++ (SW κ (AA 3) g1 ++ (SO la (AA 3 0) f1 ++ (SW κ (AA 4) g2 ++ (SO lb (AA 4 0) f2 ++ (OW κ (AA 5) no ot ++ (SW κ (AA 7) gp ++ PW κ (AA 6) (AA 7) eo v tx))))))))))))) pmM (fun u2 => pmM.symm) rfl (Nat.le_of_ble_eq_true rfl) dL_law_1435 ⟨by show _ ≤ 601024; omega, by show _ ≤ 7293034; omega⟩ (fun u2 hu2 => ?_)
  refine z_istore C [(6, .int ((nI 0))), (5, .int (nI 1)), (0, .ref (sc)), (1, .ref (ra)), (2, .ref (Ad 0)), (3, .ref (oa)), (4, .int (nI i))] dL_law_1438 (by decide) rfl ?_
  refine z_aload_n C dL_law_1440 4 rfl ?_
  refine z_callV C (mX6_thrown l D κ Ad eo ip (upN w 1 1) σ aw (hiF h) (hiF s2) ot) gL_law_X6_thrown rfl rfl rfl hdX6_thrown ⟨(Nat.le_of_ble_eq_true rfl), (Nat.le_of_ble_eq_true rfl)⟩ 0 rfl rfl _ (fun _ => OUTW κ oa fo ++ (MW κ Ad eo ip (upN w 1 1) σ aw (hiF h) (hiF s2) ot ++ (SW κ (AA 0) g ++ (RC ra (AA 0 0) (AA 1 0) (AA 2 0) la lb (AA 6 0) (AA 5 0) ++ (SW κ (AA 1) f ++ (HO κ (AA 2) hf nx ct ++ (hW κ Hs gh 10 ++ (SW κ (AA 3) g1 ++ (SO la (AA 3 0) f1 ++ (SW κ (AA 4) g2 ++ (SO lb (AA 4 0) f2 ++ (OW κ (AA 5) no ot ++ (SW κ (AA 7) gp ++ PW κ (AA 6) (AA 7) eo v tx))))))))))))) pmM (fun _ => pmM.symm) rfl (Nat.le_of_ble_eq_true rfl) dL_law_1441 ⟨by show _ ≤ 601024; omega, by show _ ≤ 7293034; omega⟩ (fun _ _ => ?_)
  refine z_iload C dL_law_1444 1 rfl ?_
  refine z_icmpE C 1451 rfl dL_law_1446 (by decide) ?_
  refine z_iload C dL_law_1451 1 rfl ?_
  refine z_if_ne C 1468 dL_law_1453 (by decide) (fun _ => ?_) (fun q => absurd q (by decide))
  refine z_goto (tgt := 2685) C dL_law_1468 (by decide) ?_
  refine z_lv [2, 3, 4, 5, 6] rfl ?_
  exact K fo g f g1 g2 gp gh nx ct f1 f2 no ot eo v tx ip (upN w 1 1) σ aw h s2 (cells + 1) (slots + 6) (by omega) (by omega) ((H.mono (by omega) (by omega)).w1 _)
set_option maxRecDepth 100000 in
set_option maxHeartbeats 8000000 in
theorem lc_26_nb (C : zC p s m args c cL_law 9 wsL_law RL D (zTy κ) A) (hXc : aX adK adV A s s.heap) (hls : l.stackTraces = false) (hX : va_X sc L xs s s.heap) (hb0 : sc < s.heap.size) (hA0 : ¬ A sc) (hhf : ∀ j, j < 10 → hf j = some (Hs j 0)) (hi6 : i + 6 ≤ L) (hL : L ≤ 3072) (hcr : cells + 1 ≤ 601024 ∧ slots + 6 ≤ 7293034) (H : LI M g g1 g2 gh nx ct f1 f2 no v tx ip w σ h s2) (hM1 : 700000 ≤ M) (hM : M ≤ 1400000) (K : LGO p l e s m args below meth c D A Q sc κ ra la lb oa Ad AA Hs hf 2685 (M + 1200) i (cells + 1) (slots + 6)) (b : Nat) (x : Int32) (hb : b < σ 2) (hx : isB (σ 1) x = false) (hx19 : xs (i + 1) = nI b) (hx29 : xs (i + 2) = x) : zW p l e RML s m args below meth c 9 D A cells slots Q (LAWW κ ra la lb oa Ad AA Hs hf fo g f g1 g2 gp gh nx ct f1 f2 no ot eo v tx ip w σ aw h s2) [(0, .ref (sc)), (1, .ref (ra)), (2, .ref (Ad 0)), (3, .ref (oa)), (4, .int (nI i))] 1403 [] := by
  obtain ⟨hr, hv, ht0⟩ := id H.1
  obtain ⟨hnx, hct, h5, -⟩ := id H.2.1
  obtain ⟨q1, q2, h7, -, -⟩ := id H.2.2.1
  obtain ⟨v1, hw9, v2, ht⟩ := id H.2.2.2.1
  obtain ⟨hno, hn64⟩ := id H.2.2.2.2
  have n1 := hv.n1
  have n2 := hv.n2
  refine z_aload_n C dL_law_1403 1 rfl ?_
  refine z_aload_n C dL_law_1404 0 rfl ?_
  refine z_iload C dL_law_1405 4 rfl ?_
  refine z_iconst (v := nI 1) C dL_law_1407 (by decide) ?_
  refine zn_iadd C dL_law_1408 ?_
  refine z_sld C hX hb0 hA0 (i := i + 1) (by omega) (by omega) hx19 dL_law_1409 ?_
  refine z_aload_n C dL_law_1410 0 rfl ?_
  refine z_iload C dL_law_1411 4 rfl ?_
  refine z_iconst (v := nI 2) C dL_law_1413 (by decide) ?_
  refine zn_iadd C dL_law_1414 ?_
  refine z_sld C hX hb0 hA0 (i := i + 2) (by omega) (by omega) hx29 dL_law_1415 ?_
  refine z_aload_n C dL_law_1416 3 rfl ?_
  refine zh_callS C (aX_ok adK adV) hXc (mL_passages_nb l D κ adK adV (AA 0) g ra (AA 1 0) (AA 2 0) la lb (AA 6 0) (AA 5 0) σ M b x hls hr hv hb hx oa fo) gL_law_L_passages rfl rfl rfl hdL_passages ⟨(Nat.le_of_ble_eq_true rfl), (Nat.le_of_ble_eq_true rfl)⟩ _ (fun u1 => OUTW κ oa fo ++ (MW κ Ad eo ip w σ aw (hiF h) (hiF s2) ot ++ (SW κ (AA 0) g ++ (RC ra (AA 0 0) (AA 1 0) (AA 2 0) la lb (AA 6 0) (AA 5 0) ++ (SW κ (AA 1) f ++ (HO κ (AA 2) hf nx ct ++ (hW κ Hs gh 10 ++ (SW κ (AA 3) g1 ++ (SO la (AA 3 0) f1 ++ (SW κ (AA 4) g2 ++ (SO lb (AA 4 0) f2 ++ (OW κ (AA 5) no ot ++ (SW κ (AA 7) gp ++ PW κ (AA 6) (AA 7) eo v tx))))))))))))) pmH_S (fun u1 => pmH_S.symm) rfl (Nat.le_of_ble_eq_true rfl) dL_law_1417 ⟨by show _ ≤ 601024; omega, by show _ ≤ 7293034; omega⟩ (fun u1 hu1 => ?_)
  refine z_istore C [(5, .int (nI 1)), (0, .ref (sc)), (1, .ref (ra)), (2, .ref (Ad 0)), (3, .ref (oa)), (4, .int (nI i))] dL_law_1420 (by decide) rfl ?_
  refine z_aload_n C dL_law_1422 3 rfl ?_
  refine z_aload_n C dL_law_1423 1 rfl ?_
  refine z_iload C dL_law_1424 5 rfl ?_
  refine z_iconst (v := nI 1) C dL_law_1426 (by decide) ?_
  refine zn_iadd C dL_law_1427 ?_
  refine z_sld C hX hb0 hA0 (i := i + 1) (by omega) (by omega) hx19 dL_law_1428 ?_
  refine z_aload_n C dL_law_1429 1 rfl ?_
  refine z_iload C dL_law_1430 5 rfl ?_
  refine z_iconst (v := nI 2) C dL_law_1432 (by decide) ?_
  refine zn_iadd C dL_law_1433 ?_
  refine z_sld C hX hb0 hA0 (i := i + 2) (by omega) (by omega) hx29 dL_law_1434 ?_
  refine z_callV C (mX6_passages_nb l D κ Ad eo ip w σ aw (hiF h) (hiF s2) ot M b x hv.1 (by first | assumption | omega) hx) gL_law_X6_passages rfl rfl rfl hdX6_passages ⟨(Nat.le_of_ble_eq_true rfl), (Nat.le_of_ble_eq_true rfl)⟩ 0 rfl rfl _ (fun u2 => OUTW κ oa fo ++ (MW κ Ad eo ip (upN w 1 1) σ aw (hiF h) (hiF s2) ot ++ (SW κ (AA 0) g ++ (RC ra (AA 0 0) (AA 1 0) (AA 2 0) la lb (AA 6 0) (AA 5 0) ++ (SW κ (AA 1) f ++ (HO κ (AA 2) hf nx ct ++ (hW κ Hs gh 10 ++ (SW κ (AA 3) g1 ++ (SO la (AA 3 0) f1 ++ (SW κ (AA 4) g2 ++ (SO lb (AA 4 0) f2 ++ (OW κ (AA 5) no ot ++ (SW κ (AA 7) gp ++ PW κ (AA 6) (AA 7) eo v tx))))))))))))) pmM (fun u2 => pmM.symm) rfl (Nat.le_of_ble_eq_true rfl) dL_law_1435 ⟨by show _ ≤ 601024; omega, by show _ ≤ 7293034; omega⟩ (fun u2 hu2 => ?_)
  refine z_istore C [(6, .int ((nI 0))), (5, .int (nI 1)), (0, .ref (sc)), (1, .ref (ra)), (2, .ref (Ad 0)), (3, .ref (oa)), (4, .int (nI i))] dL_law_1438 (by decide) rfl ?_
  refine z_aload_n C dL_law_1440 4 rfl ?_
  refine z_callV C (mX6_thrown l D κ Ad eo ip (upN w 1 1) σ aw (hiF h) (hiF s2) ot) gL_law_X6_thrown rfl rfl rfl hdX6_thrown ⟨(Nat.le_of_ble_eq_true rfl), (Nat.le_of_ble_eq_true rfl)⟩ 0 rfl rfl _ (fun _ => OUTW κ oa fo ++ (MW κ Ad eo ip (upN w 1 1) σ aw (hiF h) (hiF s2) ot ++ (SW κ (AA 0) g ++ (RC ra (AA 0 0) (AA 1 0) (AA 2 0) la lb (AA 6 0) (AA 5 0) ++ (SW κ (AA 1) f ++ (HO κ (AA 2) hf nx ct ++ (hW κ Hs gh 10 ++ (SW κ (AA 3) g1 ++ (SO la (AA 3 0) f1 ++ (SW κ (AA 4) g2 ++ (SO lb (AA 4 0) f2 ++ (OW κ (AA 5) no ot ++ (SW κ (AA 7) gp ++ PW κ (AA 6) (AA 7) eo v tx))))))))))))) pmM (fun _ => pmM.symm) rfl (Nat.le_of_ble_eq_true rfl) dL_law_1441 ⟨by show _ ≤ 601024; omega, by show _ ≤ 7293034; omega⟩ (fun _ _ => ?_)
  refine z_iload C dL_law_1444 1 rfl ?_
  refine z_icmpE C 1451 rfl dL_law_1446 (by decide) ?_
  refine z_iload C dL_law_1451 1 rfl ?_
  refine z_if_ne C 1468 dL_law_1453 (by decide) (fun _ => ?_) (fun q => absurd q (by decide))
  refine z_goto (tgt := 2685) C dL_law_1468 (by decide) ?_
  refine z_lv [2, 3, 4, 5, 6] rfl ?_
  exact K fo g f g1 g2 gp gh nx ct f1 f2 no ot eo v tx ip (upN w 1 1) σ aw h s2 (cells + 1) (slots + 6) (by omega) (by omega) ((H.mono (by omega) (by omega)).w1 _)
end LC
