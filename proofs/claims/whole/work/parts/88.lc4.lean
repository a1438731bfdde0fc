section LC
variable {p : Program} {l : Launch} {e : Env} {s : State} {m : MethodId} {args : Array Value} {below : List Frame} {meth : Method} {c : Code} {D : va_G} {A : Nat → Prop} {cells slots : Nat} {Q : State → Prop} {sc L : Nat} {xs : Nat → Int32} {κ : Nat → ClassId} {adK adV : Nat → Nat} {ra la lb oa : Nat} {Ad : Nat → Nat} {AA : Nat → Nat → Nat} {Hs : Nat → Nat → Nat} {hf : Nat → Option Nat} {fo : Nat → Int64} {g f g1 g2 gp : Nat → Nat → Nat} {gh : Nat → Nat → Nat → Nat} {nx ct f1 f2 no : Nat} {ot : Nat → Nat} {eo : Int32} {v : Nat → Nat} {tx ip : Nat → Int32} {w σ aw : Nat → Nat} {h s2 : Nat → Nat → Nat} {M i : Nat}
set_option maxRecDepth 100000 in
set_option maxHeartbeats 8000000 in
theorem lc_36 (C : zC p s m args c cL_law 9 wsL_law RL D (zTy κ) A) (hXc : aX adK adV A s s.heap) (hls : l.stackTraces = false) (hX : va_X sc L xs s s.heap) (hb0 : sc < s.heap.size) (hA0 : ¬ A sc) (hhf : ∀ j, j < 10 → hf j = some (Hs j 0)) (hi6 : i + 6 ≤ L) (hL : L ≤ 3072) (hcr : cells + 1 ≤ 601024 ∧ slots + 6 ≤ 7293034) (H : LI M g g1 g2 gh nx ct f1 f2 no v tx ip w σ h s2) (hM1 : 700000 ≤ M) (hM : M ≤ 1400000) (K : LGO p l e s m args below meth c D A Q sc κ ra la lb oa Ad AA Hs hf 2685 (M + 1200) i (cells + 1) (slots + 6))   : zW p l e RML s m args below meth c 9 D A cells slots Q (LAWW κ ra la lb oa Ad AA Hs hf fo g f g1 g2 gp gh nx ct f1 f2 no ot eo v tx ip w σ aw h s2) [(0, .ref (sc)), (1, .ref (ra)), (2, .ref (Ad 0)), (3, .ref (oa)), (4, .int (nI i))] 1865 [] := by
  obtain ⟨hr, hv, ht0⟩ := id H.1
  obtain ⟨hnx, hct, h5, -⟩ := id H.2.1
  obtain ⟨q1, q2, h7, -, -⟩ := id H.2.2.1
  obtain ⟨v1, hw9, v2, ht⟩ := id H.2.2.2.1
  obtain ⟨hno, hn64⟩ := id H.2.2.2.2
  have n1 := hv.n1
  have n2 := hv.n2
  refine z_aload_n C dL_law_1865 1 rfl ?_
  refine z_callV C (mX5_removedWagons l D κ (AA 0) g ra (AA 1 0) (AA 2 0) la lb (AA 6 0) (AA 5 0) σ M hr hv) gL_law_X5_removedWagons rfl rfl rfl hdX5_removedWagons ⟨(Nat.le_of_ble_eq_true rfl), (Nat.le_of_ble_eq_true rfl)⟩ 13 rfl rfl _ (fun u1 => OUTW κ oa fo ++ (MW κ Ad eo ip w σ aw (hiF h) (hiF s2) ot ++ (SW κ (AA 0) g ++ (RC ra (AA 0 0) (AA 1 0) (AA 2 0) la lb (AA 6 0) (AA 5 0) ++ (SW κ (AA 1) f ++ (HO κ (AA 2) hf nx ct ++ (hW κ Hs gh 10 ++ (SW κ (AA 3) g1 ++ (SO la (AA 3 0) f1 ++ (SW κ (AA 4) g2 ++ (SO lb (AA 4 0) f2 ++ (OW κ (AA 5) no ot ++ (SW κ (AA 7) gp ++ PW κ (AA 6) (AA 7) eo v tx))))))))))))) pmX_S (fun u1 => pmX_S.symm) rfl (Nat.le_of_ble_eq_true rfl) dL_law_1866 ⟨by show _ ≤ 601024; omega, by show _ ≤ 7293034; omega⟩ (fun u1 hu1 => ?_)
  refine z_aload_n C dL_law_1869 2 rfl ?_
  refine z_callV C (mX6_removedWagons l D κ Ad eo ip w σ aw (hiF h) (hiF s2) ot M hv.1) gL_law_X6_removedWagons rfl rfl rfl hdX6_removedWagons ⟨(Nat.le_of_ble_eq_true rfl), (Nat.le_of_ble_eq_true rfl)⟩ 0 rfl rfl _ (fun u2 => OUTW κ oa fo ++ (MW κ Ad eo ip (upN w 1 0) σ aw (hiF h) (hiF s2) ot ++ (SW κ (AA 0) g ++ (RC ra (AA 0 0) (AA 1 0) (AA 2 0) la lb (AA 6 0) (AA 5 0) ++ (SW κ (AA 1) f ++ (HO κ (AA 2) hf nx ct ++ (hW κ Hs gh 10 ++ (SW κ (AA 3) g1 ++ (SO la (AA 3 0) f1 ++ (SW κ (AA 4) g2 ++ (SO lb (AA 4 0) f2 ++ (OW κ (AA 5) no ot ++ (SW κ (AA 7) gp ++ PW κ (AA 6) (AA 7) eo v tx))))))))))))) pmM (fun u2 => pmM.symm) rfl (Nat.le_of_ble_eq_true rfl) dL_law_1870 ⟨by show _ ≤ 601024; omega, by show _ ≤ 7293034; omega⟩ (fun u2 hu2 => ?_)
  refine z_icmpE C 2685 rfl dL_law_1873 (by decide) ?_
  refine z_lv [0, 1, 2, 3, 4] rfl ?_
  exact K fo g f g1 g2 gp gh nx ct f1 f2 no ot eo v tx ip (upN w 1 0) σ aw h s2 cells slots (by omega) (by omega) ((H.mono (by omega) (by omega)).w1 _)
set_option maxRecDepth 100000 in
set_option maxHeartbeats 8000000 in
theorem lc_37 (C : zC p s m args c cL_law 9 wsL_law RL D (zTy κ) A) (hXc : aX adK adV A s s.heap) (hls : l.stackTraces = false) (hX : va_X sc L xs s s.heap) (hb0 : sc < s.heap.size) (hA0 : ¬ A sc) (hhf : ∀ j, j < 10 → hf j = some (Hs j 0)) (hi6 : i + 6 ≤ L) (hL : L ≤ 3072) (hcr : cells + 1 ≤ 601024 ∧ slots + 6 ≤ 7293034) (H : LI M g g1 g2 gh nx ct f1 f2 no v tx ip w σ h s2) (hM1 : 700000 ≤ M) (hM : M ≤ 1400000) (K : LGO p l e s m args below meth c D A Q sc κ ra la lb oa Ad AA Hs hf 2685 (M + 1200) i (cells + 1) (slots + 6))   : zW p l e RML s m args below meth c 9 D A cells slots Q (LAWW κ ra la lb oa Ad AA Hs hf fo g f g1 g2 gp gh nx ct f1 f2 no ot eo v tx ip w σ aw h s2) [(0, .ref (sc)), (1, .ref (ra)), (2, .ref (Ad 0)), (3, .ref (oa)), (4, .int (nI i))] 1878 [] := by
  obtain ⟨hr, hv, ht0⟩ := id H.1
  obtain ⟨hnx, hct, h5, -⟩ := id H.2.1
  obtain ⟨q1, q2, h7, -, -⟩ := id H.2.2.1
  obtain ⟨v1, hw9, v2, ht⟩ := id H.2.2.2.1
  obtain ⟨hno, hn64⟩ := id H.2.2.2.2
  have n1 := hv.n1
  have n2 := hv.n2
  refine z_aload_n C dL_law_1878 1 rfl ?_
  refine z_callV C (mX5_sharedBlocks l D κ (AA 0) g ra (AA 1 0) (AA 2 0) la lb (AA 6 0) (AA 5 0) σ M hr hv) gL_law_X5_sharedBlocks rfl rfl rfl hdX5_sharedBlocks ⟨(Nat.le_of_ble_eq_true rfl), (Nat.le_of_ble_eq_true rfl)⟩ 13 rfl rfl _ (fun u1 => OUTW κ oa fo ++ (MW κ Ad eo ip w σ aw (hiF h) (hiF s2) ot ++ (SW κ (AA 0) g ++ (RC ra (AA 0 0) (AA 1 0) (AA 2 0) la lb (AA 6 0) (AA 5 0) ++ (SW κ (AA 1) f ++ (HO κ (AA 2) hf nx ct ++ (hW κ Hs gh 10 ++ (SW κ (AA 3) g1 ++ (SO la (AA 3 0) f1 ++ (SW κ (AA 4) g2 ++ (SO lb (AA 4 0) f2 ++ (OW κ (AA 5) no ot ++ (SW κ (AA 7) gp ++ PW κ (AA 6) (AA 7) eo v tx))))))))))))) pmX_S (fun u1 => pmX_S.symm) rfl (Nat.le_of_ble_eq_true rfl) dL_law_1879 ⟨by show _ ≤ 601024; omega, by show _ ≤ 7293034; omega⟩ (fun u1 hu1 => ?_)
  refine z_aload_n C dL_law_1882 2 rfl ?_
  refine z_callV C (mX6_sharedBlocks l D κ Ad eo ip w σ aw (hiF h) (hiF s2) ot M hv.1) gL_law_X6_sharedBlocks rfl rfl rfl hdX6_sharedBlocks ⟨(Nat.le_of_ble_eq_true rfl), (Nat.le_of_ble_eq_true rfl)⟩ 0 rfl rfl _ (fun u2 => OUTW κ oa fo ++ (MW κ Ad eo ip (upN w 1 0) σ aw (hiF h) (hiF s2) ot ++ (SW κ (AA 0) g ++ (RC ra (AA 0 0) (AA 1 0) (AA 2 0) la lb (AA 6 0) (AA 5 0) ++ (SW κ (AA 1) f ++ (HO κ (AA 2) hf nx ct ++ (hW κ Hs gh 10 ++ (SW κ (AA 3) g1 ++ (SO la (AA 3 0) f1 ++ (SW κ (AA 4) g2 ++ (SO lb (AA 4 0) f2 ++ (OW κ (AA 5) no ot ++ (SW κ (AA 7) gp ++ PW κ (AA 6) (AA 7) eo v tx))))))))))))) pmM (fun u2 => pmM.symm) rfl (Nat.le_of_ble_eq_true rfl) dL_law_1883 ⟨by show _ ≤ 601024; omega, by show _ ≤ 7293034; omega⟩ (fun u2 hu2 => ?_)
  refine z_icmpE C 2685 rfl dL_law_1886 (by decide) ?_
  refine z_lv [0, 1, 2, 3, 4] rfl ?_
  exact K fo g f g1 g2 gp gh nx ct f1 f2 no ot eo v tx ip (upN w 1 0) σ aw h s2 cells slots (by omega) (by omega) ((H.mono (by omega) (by omega)).w1 _)
set_option maxRecDepth 100000 in
set_option maxHeartbeats 8000000 in
theorem lc_38 (C : zC p s m args c cL_law 9 wsL_law RL D (zTy κ) A) (hXc : aX adK adV A s s.heap) (hls : l.stackTraces = false) (hX : va_X sc L xs s s.heap) (hb0 : sc < s.heap.size) (hA0 : ¬ A sc) (hhf : ∀ j, j < 10 → hf j = some (Hs j 0)) (hi6 : i + 6 ≤ L) (hL : L ≤ 3072) (hcr : cells + 1 ≤ 601024 ∧ slots + 6 ≤ 7293034) (H : LI M g g1 g2 gh nx ct f1 f2 no v tx ip w σ h s2) (hM1 : 700000 ≤ M) (hM : M ≤ 1400000) (K : LGO p l e s m args below meth c D A Q sc κ ra la lb oa Ad AA Hs hf 2685 (M + 1200) i (cells + 1) (slots + 6))   : zW p l e RML s m args below meth c 9 D A cells slots Q (LAWW κ ra la lb oa Ad AA Hs hf fo g f g1 g2 gp gh nx ct f1 f2 no ot eo v tx ip w σ aw h s2) [(0, .ref (sc)), (1, .ref (ra)), (2, .ref (Ad 0)), (3, .ref (oa)), (4, .int (nI i))] 1891 [] := by
  obtain ⟨hr, hv, ht0⟩ := id H.1
  obtain ⟨hnx, hct, h5, -⟩ := id H.2.1
  obtain ⟨q1, q2, h7, -, -⟩ := id H.2.2.1
  obtain ⟨v1, hw9, v2, ht⟩ := id H.2.2.2.1
  obtain ⟨hno, hn64⟩ := id H.2.2.2.2
  have n1 := hv.n1
  have n2 := hv.n2
  refine z_aload_n C dL_law_1891 1 rfl ?_
  refine z_callV C (mX5_wagonDifference l D κ (AA 0) g ra (AA 1 0) (AA 2 0) la lb (AA 6 0) (AA 5 0) σ M hr hv) gL_law_X5_wagonDifference rfl rfl rfl hdX5_wagonDifference ⟨(Nat.le_of_ble_eq_true rfl), (Nat.le_of_ble_eq_true rfl)⟩ 13 rfl rfl _ (fun u1 => OUTW κ oa fo ++ (MW κ Ad eo ip w σ aw (hiF h) (hiF s2) ot ++ (SW κ (AA 0) g ++ (RC ra (AA 0 0) (AA 1 0) (AA 2 0) la lb (AA 6 0) (AA 5 0) ++ (SW κ (AA 1) f ++ (HO κ (AA 2) hf nx ct ++ (hW κ Hs gh 10 ++ (SW κ (AA 3) g1 ++ (SO la (AA 3 0) f1 ++ (SW κ (AA 4) g2 ++ (SO lb (AA 4 0) f2 ++ (OW κ (AA 5) no ot ++ (SW κ (AA 7) gp ++ PW κ (AA 6) (AA 7) eo v tx))))))))))))) pmX_S (fun u1 => pmX_S.symm) rfl (Nat.le_of_ble_eq_true rfl) dL_law_1892 ⟨by show _ ≤ 601024; omega, by show _ ≤ 7293034; omega⟩ (fun u1 hu1 => ?_)
  refine z_aload_n C dL_law_1895 2 rfl ?_
  refine z_callV C (mX6_wagonDifference l D κ Ad eo ip w σ aw (hiF h) (hiF s2) ot M hv.1) gL_law_X6_wagonDifference rfl rfl rfl hdX6_wagonDifference ⟨(Nat.le_of_ble_eq_true rfl), (Nat.le_of_ble_eq_true rfl)⟩ 0 rfl rfl _ (fun u2 => OUTW κ oa fo ++ (MW κ Ad eo ip (upN w 1 0) σ aw (hiF h) (hiF s2) ot ++ (SW κ (AA 0) g ++ (RC ra (AA 0 0) (AA 1 0) (AA 2 0) la lb (AA 6 0) (AA 5 0) ++ (SW κ (AA 1) f ++ (HO κ (AA 2) hf nx ct ++ (hW κ Hs gh 10 ++ (SW κ (AA 3) g1 ++ (SO la (AA 3 0) f1 ++ (SW κ (AA 4) g2 ++ (SO lb (AA 4 0) f2 ++ (OW κ (AA 5) no ot ++ (SW κ (AA 7) gp ++ PW κ (AA 6) (AA 7) eo v tx))))))))))))) pmM (fun u2 => pmM.symm) rfl (Nat.le_of_ble_eq_true rfl) dL_law_1896 ⟨by show _ ≤ 601024; omega, by show _ ≤ 7293034; omega⟩ (fun u2 hu2 => ?_)
  refine z_icmpE C 2685 rfl dL_law_1899 (by decide) ?_
  refine z_lv [0, 1, 2, 3, 4] rfl ?_
  exact K fo g f g1 g2 gp gh nx ct f1 f2 no ot eo v tx ip (upN w 1 0) σ aw h s2 cells slots (by omega) (by omega) ((H.mono (by omega) (by omega)).w1 _)
set_option maxRecDepth 100000 in
set_option maxHeartbeats 8000000 in
theorem lc_39 (C : zC p s m args c cL_law 9 wsL_law RL D (zTy κ) A) (hXc : aX adK adV A s s.heap) (hls : l.stackTraces = false) (hX : va_X sc L xs s s.heap) (hb0 : sc < s.heap.size) (hA0 : ¬ A sc) (hhf : ∀ j, j < 10 → hf j = some (Hs j 0)) (hi6 : i + 6 ≤ L) (hL : L ≤ 3072) (hcr : cells + 1 ≤ 601024 ∧ slots + 6 ≤ 7293034) (H : LI M g g1 g2 gh nx ct f1 f2 no v tx ip w σ h s2) (hM1 : 700000 ≤ M) (hM : M ≤ 1400000) (K : LGO p l e s m args below meth c D A Q sc κ ra la lb oa Ad AA Hs hf 2685 (M + 1200) i (cells + 1) (slots + 6))   : zW p l e RML s m args below meth c 9 D A cells slots Q (LAWW κ ra la lb oa Ad AA Hs hf fo g f g1 g2 gp gh nx ct f1 f2 no ot eo v tx ip w σ aw h s2) [(0, .ref (sc)), (1, .ref (ra)), (2, .ref (Ad 0)), (3, .ref (oa)), (4, .int (nI i))] 1904 [] := by
  obtain ⟨hr, hv, ht0⟩ := id H.1
  obtain ⟨hnx, hct, h5, -⟩ := id H.2.1
  obtain ⟨q1, q2, h7, -, -⟩ := id H.2.2.1
  obtain ⟨v1, hw9, v2, ht⟩ := id H.2.2.2.1
  obtain ⟨hno, hn64⟩ := id H.2.2.2.2
  have n1 := hv.n1
  have n2 := hv.n2
  refine z_aload_n C dL_law_1904 1 rfl ?_
  refine z_callV C (mX5_meanDepth l D κ (AA 0) g ra (AA 1 0) (AA 2 0) la lb (AA 6 0) (AA 5 0) σ M hr hv) gL_law_X5_meanDepth rfl rfl rfl hdX5_meanDepth ⟨(Nat.le_of_ble_eq_true rfl), (Nat.le_of_ble_eq_true rfl)⟩ 13 rfl rfl _ (fun u1 => OUTW κ oa fo ++ (MW κ Ad eo ip w σ aw (hiF h) (hiF s2) ot ++ (SW κ (AA 0) g ++ (RC ra (AA 0 0) (AA 1 0) (AA 2 0) la lb (AA 6 0) (AA 5 0) ++ (SW κ (AA 1) f ++ (HO κ (AA 2) hf nx ct ++ (hW κ Hs gh 10 ++ (SW κ (AA 3) g1 ++ (SO la (AA 3 0) f1 ++ (SW κ (AA 4) g2 ++ (SO lb (AA 4 0) f2 ++ (OW κ (AA 5) no ot ++ (SW κ (AA 7) gp ++ PW κ (AA 6) (AA 7) eo v tx))))))))))))) pmX_S (fun u1 => pmX_S.symm) rfl (Nat.le_of_ble_eq_true rfl) dL_law_1905 ⟨by show _ ≤ 601024; omega, by show _ ≤ 7293034; omega⟩ (fun u1 hu1 => ?_)
  refine z_dstore C [(5, .double (mdF σ)), (0, .ref (sc)), (1, .ref (ra)), (2, .ref (Ad 0)), (3, .ref (oa)), (4, .int (nI i))] dL_law_1908 (by decide) rfl ?_
  refine z_aload_n C dL_law_1910 3 rfl ?_
  refine z_callV C (mX6_meanDepth l D κ Ad eo ip w σ aw (hiF h) (hiF s2) ot M hv.1 n1 n2) gL_law_X6_meanDepth rfl rfl rfl hdX6_meanDepth ⟨(Nat.le_of_ble_eq_true rfl), (Nat.le_of_ble_eq_true rfl)⟩ 0 rfl rfl _ (fun u2 => OUTW κ oa fo ++ (MW κ Ad eo ip (upN w 1 0) σ aw (hiF h) (hiF s2) ot ++ (SW κ (AA 0) g ++ (RC ra (AA 0 0) (AA 1 0) (AA 2 0) la lb (AA 6 0) (AA 5 0) ++ (SW κ (AA 1) f ++ (HO κ (AA 2) hf nx ct ++ (hW κ Hs gh 10 ++ (SW κ (AA 3) g1 ++ (SO la (AA 3 0) f1 ++ (SW κ (AA 4) g2 ++ (SO lb (AA 4 0) f2 ++ (OW κ (AA 5) no ot ++ (SW κ (AA 7) gp ++ PW κ (AA 6) (AA 7) eo v tx))))))))))))) pmM (fun u2 => pmM.symm) rfl (Nat.le_of_ble_eq_true rfl) dL_law_1911 ⟨by show _ ≤ 601024; omega, by show _ ≤ 7293034; omega⟩ (fun u2 hu2 => ?_)
  refine z_dstore C [(7, .double (mdF σ)), (5, .double (mdF σ)), (0, .ref (sc)), (1, .ref (ra)), (2, .ref (Ad 0)), (3, .ref (oa)), (4, .int (nI i))] dL_law_1914 (by decide) rfl ?_
  refine z_dload C dL_law_1916 1 rfl ?_
  refine z_dload C dL_law_1918 0 rfl ?_
  refine z_dcmp C dL_law_1920 ?_
  refine z_if_eq C 1942 dL_law_1921 (by decide) (fun h1 => ?_) (fun h2 => ?_)
  · refine z_goto (tgt := 2685) C dL_law_1942 (by decide) ?_
    refine z_lv [2, 3, 4, 5, 6] rfl ?_
    exact K fo g f g1 g2 gp gh nx ct f1 f2 no ot eo v tx ip (upN w 1 0) σ aw h s2 cells slots (by omega) (by omega) ((H.mono (by omega) (by omega)).w1 _)
  · refine z_dload C dL_law_1924 1 rfl ?_
    refine z_dload C dL_law_1926 1 rfl ?_
    refine z_dcmp C dL_law_1928 ?_
    refine z_if_eq C 1940 dL_law_1929 (by decide) (fun q => absurd q h2) (fun _ => ?_)
    refine z_dload C dL_law_1932 0 rfl ?_
    refine z_dload C dL_law_1934 0 rfl ?_
    refine z_dcmp C dL_law_1936 ?_
    refine z_if_ne C 1942 dL_law_1937 (by decide) (fun _ => ?_) (fun q => absurd q h2)
    refine z_goto (tgt := 2685) C dL_law_1942 (by decide) ?_
    refine z_lv [2, 3, 4, 5, 6] rfl ?_
    exact K fo g f g1 g2 gp gh nx ct f1 f2 no ot eo v tx ip (upN w 1 0) σ aw h s2 cells slots (by omega) (by omega) ((H.mono (by omega) (by omega)).w1 _)
set_option maxRecDepth 100000 in
set_option maxHeartbeats 8000000 in
theorem lc_40 (C : zC p s m args c cL_law 9 wsL_law RL D (zTy κ) A) (hXc : aX adK adV A s s.heap) (hls : l.stackTraces = false) (hX : va_X sc L xs s s.heap) (hb0 : sc < s.heap.size) (hA0 : ¬ A sc) (hhf : ∀ j, j < 10 → hf j = some (Hs j 0)) (hi6 : i + 6 ≤ L) (hL : L ≤ 3072) (hcr : cells + 1 ≤ 601024 ∧ slots + 6 ≤ 7293034) (H : LI M g g1 g2 gh nx ct f1 f2 no v tx ip w σ h s2) (hM1 : 700000 ≤ M) (hM : M ≤ 1400000) (K : LGO p l e s m args below meth c D A Q sc κ ra la lb oa Ad AA Hs hf 2685 (M + 1200) i (cells + 1) (slots + 6))   : zW p l e RML s m args below meth c 9 D A cells slots Q (LAWW κ ra la lb oa Ad AA Hs hf fo g f g1 g2 gp gh nx ct f1 f2 no ot eo v tx ip w σ aw h s2) [(0, .ref (sc)), (1, .ref (ra)), (2, .ref (Ad 0)), (3, .ref (oa)), (4, .int (nI i))] 1945 [] := by
  obtain ⟨hr, hv, ht0⟩ := id H.1
  obtain ⟨hnx, hct, h5, -⟩ := id H.2.1
  obtain ⟨q1, q2, h7, -, -⟩ := id H.2.2.1
  obtain ⟨v1, hw9, v2, ht⟩ := id H.2.2.2.1
  obtain ⟨hno, hn64⟩ := id H.2.2.2.2
  have n1 := hv.n1
  have n2 := hv.n2
  refine z_aload_n C dL_law_1945 1 rfl ?_
  refine z_callV C (mX5_waitShare l D κ (AA 0) g ra (AA 1 0) (AA 2 0) la lb (AA 6 0) (AA 5 0) σ M hr hv ht0) gL_law_X5_waitShare rfl rfl rfl hdX5_waitShare ⟨(Nat.le_of_ble_eq_true rfl), (Nat.le_of_ble_eq_true rfl)⟩ 13 rfl rfl _ (fun u1 => OUTW κ oa fo ++ (MW κ Ad eo ip w σ aw (hiF h) (hiF s2) ot ++ (SW κ (AA 0) g ++ (RC ra (AA 0 0) (AA 1 0) (AA 2 0) la lb (AA 6 0) (AA 5 0) ++ (SW κ (AA 1) f ++ (HO κ (AA 2) hf nx ct ++ (hW κ Hs gh 10 ++ (SW κ (AA 3) g1 ++ (SO la (AA 3 0) f1 ++ (SW κ (AA 4) g2 ++ (SO lb (AA 4 0) f2 ++ (OW κ (AA 5) no ot ++ (SW κ (AA 7) gp ++ PW κ (AA 6) (AA 7) eo v tx))))))))))))) pmX_S (fun u1 => pmX_S.symm) rfl (Nat.le_of_ble_eq_true rfl) dL_law_1946 ⟨by show _ ≤ 601024; omega, by show _ ≤ 7293034; omega⟩ (fun u1 hu1 => ?_)
  refine z_f2d C dL_law_1949 (nv64 (f2d_nn (wsF_nn σ (Nat.lt_of_le_of_lt (Nat.mul_le_mul ht0 n2) (by decide))))) ?_
  refine z_dstore C [(5, .double (FP.f2d (wsF σ))), (0, .ref (sc)), (1, .ref (ra)), (2, .ref (Ad 0)), (3, .ref (oa)), (4, .int (nI i))] dL_law_1950 (by decide) rfl ?_
  refine z_aload_n C dL_law_1952 3 rfl ?_
  refine z_callV C (mX6_waitShare l D κ Ad eo ip w σ aw (hiF h) (hiF s2) ot M hv.1 n1 n2 ht0) gL_law_X6_waitShare rfl rfl rfl hdX6_waitShare ⟨(Nat.le_of_ble_eq_true rfl), (Nat.le_of_ble_eq_true rfl)⟩ 0 rfl rfl _ (fun u2 => OUTW κ oa fo ++ (MW κ Ad eo ip (upN w 1 0) σ aw (hiF h) (hiF s2) ot ++ (SW κ (AA 0) g ++ (RC ra (AA 0 0) (AA 1 0) (AA 2 0) la lb (AA 6 0) (AA 5 0) ++ (SW κ (AA 1) f ++ (HO κ (AA 2) hf nx ct ++ (hW κ Hs gh 10 ++ (SW κ (AA 3) g1 ++ (SO la (AA 3 0) f1 ++ (SW κ (AA 4) g2 ++ (SO lb (AA 4 0) f2 ++ (OW κ (AA 5) no ot ++ (SW κ (AA 7) gp ++ PW κ (AA 6) (AA 7) eo v tx))))))))))))) pmM (fun u2 => pmM.symm) rfl (Nat.le_of_ble_eq_true rfl) dL_law_1953 ⟨by show _ ≤ 601024; omega, by show _ ≤ 7293034; omega⟩ (fun u2 hu2 => ?_)
  refine z_f2d C dL_law_1956 (nv64 (f2d_nn (wsF_nn σ (Nat.lt_of_le_of_lt (Nat.mul_le_mul ht0 n2) (by decide))))) ?_
  refine z_dstore C [(7, .double (FP.f2d (wsF σ))), (5, .double (FP.f2d (wsF σ))), (0, .ref (sc)), (1, .ref (ra)), (2, .ref (Ad 0)), (3, .ref (oa)), (4, .int (nI i))] dL_law_1957 (by decide) rfl ?_
  refine z_dload C dL_law_1959 1 rfl ?_
  refine z_dload C dL_law_1961 0 rfl ?_
  refine z_dcmp C dL_law_1963 ?_
  refine z_if_eq C 1985 dL_law_1964 (by decide) (fun h1 => ?_) (fun h2 => ?_)
  · refine z_goto (tgt := 2685) C dL_law_1985 (by decide) ?_
    refine z_lv [2, 3, 4, 5, 6] rfl ?_
    exact K fo g f g1 g2 gp gh nx ct f1 f2 no ot eo v tx ip (upN w 1 0) σ aw h s2 cells slots (by omega) (by omega) ((H.mono (by omega) (by omega)).w1 _)
  · refine z_dload C dL_law_1967 1 rfl ?_
    refine z_dload C dL_law_1969 1 rfl ?_
    refine z_dcmp C dL_law_1971 ?_
    refine z_if_eq C 1983 dL_law_1972 (by decide) (fun q => absurd q h2) (fun _ => ?_)
    refine z_dload C dL_law_1975 0 rfl ?_
    refine z_dload C dL_law_1977 0 rfl ?_
    refine z_dcmp C dL_law_1979 ?_
    refine z_if_ne C 1985 dL_law_1980 (by decide) (fun _ => ?_) (fun q => absurd q h2)
    refine z_goto (tgt := 2685) C dL_law_1985 (by decide) ?_
    refine z_lv [2, 3, 4, 5, 6] rfl ?_
    exact K fo g f g1 g2 gp gh nx ct f1 f2 no ot eo v tx ip (upN w 1 0) σ aw h s2 cells slots (by omega) (by omega) ((H.mono (by omega) (by omega)).w1 _)
set_option maxRecDepth 100000 in
set_option maxHeartbeats 8000000 in
theorem lc_41_ok (C : zC p s m args c cL_law 9 wsL_law RL D (zTy κ) A) (hXc : aX adK adV A s s.heap) (hls : l.stackTraces = false) (hX : va_X sc L xs s s.heap) (hb0 : sc < s.heap.size) (hA0 : ¬ A sc) (hhf : ∀ j, j < 10 → hf j = some (Hs j 0)) (hi6 : i + 6 ≤ L) (hL : L ≤ 3072) (hcr : cells + 1 ≤ 601024 ∧ slots + 6 ≤ 7293034) (H : LI M g g1 g2 gh nx ct f1 f2 no v tx ip w σ h s2) (hM1 : 700000 ≤ M) (hM : M ≤ 1400000) (K : LGO p l e s m args below meth c D A Q sc κ ra la lb oa Ad AA Hs hf 2685 (M + 1200) i (cells + 1) (slots + 6)) (n : Nat) (h1n : 1 ≤ n) (h2n : n ≤ 99) (hl : σ 0 + n ≤ 9999) (hx19 : xs (i + 1) = nI n) : zW p l e RML s m args below meth c 9 D A cells slots Q (LAWW κ ra la lb oa Ad AA Hs hf fo g f g1 g2 gp gh nx ct f1 f2 no ot eo v tx ip w σ aw h s2) [(0, .ref (sc)), (1, .ref (ra)), (2, .ref (Ad 0)), (3, .ref (oa)), (4, .int (nI i))] 1988 [] := by
  obtain ⟨hr, hv, ht0⟩ := id H.1
  obtain ⟨hnx, hct, h5, -⟩ := id H.2.1
  obtain ⟨q1, q2, h7, -, -⟩ := id H.2.2.1
  obtain ⟨v1, hw9, v2, ht⟩ := id H.2.2.2.1
  obtain ⟨hno, hn64⟩ := id H.2.2.2.2
  have n1 := hv.n1
  have n2 := hv.n2
  refine z_aload_n C dL_law_1988 1 rfl ?_
  refine z_aload_n C dL_law_1989 0 rfl ?_
  refine z_iload C dL_law_1990 4 rfl ?_
  refine z_iconst (v := nI 1) C dL_law_1992 (by decide) ?_
  refine zn_iadd C dL_law_1993 ?_
  refine z_sld C hX hb0 hA0 (i := i + 1) (by omega) (by omega) hx19 dL_law_1994 ?_
  refine z_aload_n C dL_law_1995 3 rfl ?_
  refine zh_callS C (aX_ok adK adV) hXc (mL_advance_ok l D κ (AA 0) (AA 2) Hs hf ra (AA 1 0) la lb (AA 6 0) (AA 5 0) g nx ct gh σ M n hr hv hhf hnx hct h1n h2n hl (by omega) adK adV oa fo) gL_law_L_advance rfl rfl rfl hdL_advance ⟨(Nat.le_of_ble_eq_true rfl), (Nat.le_of_ble_eq_true rfl)⟩ _ (fun u1 => OUTW κ oa (vp_updL fo 0 (((nI (psE n σ))).toInt64)) ++ (MW κ Ad eo ip w σ aw (hiF h) (hiF s2) ot ++ (SW κ (AA 0) u1.2 ++ (RC ra (AA 0 0) (AA 1 0) (AA 2 0) la lb (AA 6 0) (AA 5 0) ++ (SW κ (AA 1) f ++ (HO κ (AA 2) hf (fwN nx) (mnN ct) ++ (hW κ Hs (upS gh nx u1.1) 10 ++ (SW κ (AA 3) g1 ++ (SO la (AA 3 0) f1 ++ (SW κ (AA 4) g2 ++ (SO lb (AA 4 0) f2 ++ (OW κ (AA 5) no ot ++ (SW κ (AA 7) gp ++ PW κ (AA 6) (AA 7) eo v tx))))))))))))) pmH_k (fun u1 => pmH_k.symm) rfl (Nat.le_of_ble_eq_true rfl) dL_law_1996 ⟨by show _ ≤ 601024; omega, by show _ ≤ 7293034; omega⟩ (fun u1 hu1 => ?_)
  refine z_istore C [(5, .int (nI 0)), (0, .ref (sc)), (1, .ref (ra)), (2, .ref (Ad 0)), (3, .ref (oa)), (4, .int (nI i))] dL_law_1999 (by decide) rfl ?_
  refine z_aload_n C dL_law_2001 3 rfl ?_
  refine z_aload_n C dL_law_2002 1 rfl ?_
  refine z_iload C dL_law_2003 5 rfl ?_
  refine z_iconst (v := nI 1) C dL_law_2005 (by decide) ?_
  refine zn_iadd C dL_law_2006 ?_
  refine z_sld C hX hb0 hA0 (i := i + 1) (by omega) (by omega) hx19 dL_law_2007 ?_
  refine z_callV C (mX6_advance_ok l D κ Ad eo ip w σ aw (hiF h) (hiF s2) ot M h n hv.1 (by first | assumption | omega) (by first | assumption | omega) (by first | assumption | omega) (by first | assumption | omega) (by omega)) gL_law_X6_advance rfl rfl rfl hdX6_advance ⟨(Nat.le_of_ble_eq_true rfl), (Nat.le_of_ble_eq_true rfl)⟩ 0 rfl rfl _ (fun u2 => OUTW κ oa (vp_updL fo 0 (((nI (psE n σ))).toInt64)) ++ (MW κ Ad eo ip (upN (upN w 5 (rmN (w 5))) 1 0) (psS n σ) aw (hiF (rmH h (w 5) σ)) (hiF s2) ot ++ (SW κ (AA 0) u1.2 ++ (RC ra (AA 0 0) (AA 1 0) (AA 2 0) la lb (AA 6 0) (AA 5 0) ++ (SW κ (AA 1) f ++ (HO κ (AA 2) hf (fwN nx) (mnN ct) ++ (hW κ Hs (upS gh nx u1.1) 10 ++ (SW κ (AA 3) g1 ++ (SO la (AA 3 0) f1 ++ (SW κ (AA 4) g2 ++ (SO lb (AA 4 0) f2 ++ (OW κ (AA 5) no ot ++ (SW κ (AA 7) gp ++ PW κ (AA 6) (AA 7) eo v tx))))))))))))) pmM (fun u2 => pmM.symm) rfl (Nat.le_of_ble_eq_true rfl) dL_law_2008 ⟨by show _ ≤ 601024; omega, by show _ ≤ 7293034; omega⟩ (fun u2 hu2 => ?_)
  refine z_istore C [(6, .int ((nI (psE n σ)))), (5, .int (nI 0)), (0, .ref (sc)), (1, .ref (ra)), (2, .ref (Ad 0)), (3, .ref (oa)), (4, .int (nI i))] dL_law_2011 (by decide) rfl ?_
  refine z_aload_n C dL_law_2013 4 rfl ?_
  refine z_callV C (mX6_thrown l D κ Ad eo ip (upN (upN w 5 (rmN (w 5))) 1 0) (psS n σ) aw (hiF (rmH h (w 5) σ)) (hiF s2) ot) gL_law_X6_thrown rfl rfl rfl hdX6_thrown ⟨(Nat.le_of_ble_eq_true rfl), (Nat.le_of_ble_eq_true rfl)⟩ 0 rfl rfl _ (fun _ => OUTW κ oa (vp_updL fo 0 (((nI (psE n σ))).toInt64)) ++ (MW κ Ad eo ip (upN (upN w 5 (rmN (w 5))) 1 0) (psS n σ) aw (hiF (rmH h (w 5) σ)) (hiF s2) ot ++ (SW κ (AA 0) u1.2 ++ (RC ra (AA 0 0) (AA 1 0) (AA 2 0) la lb (AA 6 0) (AA 5 0) ++ (SW κ (AA 1) f ++ (HO κ (AA 2) hf (fwN nx) (mnN ct) ++ (hW κ Hs (upS gh nx u1.1) 10 ++ (SW κ (AA 3) g1 ++ (SO la (AA 3 0) f1 ++ (SW κ (AA 4) g2 ++ (SO lb (AA 4 0) f2 ++ (OW κ (AA 5) no ot ++ (SW κ (AA 7) gp ++ PW κ (AA 6) (AA 7) eo v tx))))))))))))) pmM (fun _ => pmM.symm) rfl (Nat.le_of_ble_eq_true rfl) dL_law_2014 ⟨by show _ ≤ 601024; omega, by show _ ≤ 7293034; omega⟩ (fun _ _ => ?_)
  refine z_iload C dL_law_2017 1 rfl ?_
  refine z_icmpE C 2024 rfl dL_law_2019 (by decide) ?_
  refine z_iload C dL_law_2024 1 rfl ?_
  refine z_if_ne C 2041 dL_law_2026 (by decide) (fun q => absurd (by decide) q) (fun _ => ?_)
  refine z_aload_n C dL_law_2029 5 rfl ?_
  refine z_iconst (v := nI 0) C dL_law_2030 (by decide) ?_
  refine z_lald C 0 4 rfl rfl (i := 0) (by decide) (by decide) dL_law_2031 ?_
  refine z_iload C dL_law_2032 0 rfl ?_
  refine z_i2l C dL_law_2034 rfl ?_
  refine z_lcmpE C (updL_0) dL_law_2035 ?_
  refine z_if_eq C 2041 dL_law_2036 (by decide) (fun _ => ?_) (fun q => absurd (by decide) q)
  refine z_goto (tgt := 2685) C dL_law_2041 (by decide) ?_
  refine z_lv [2, 3, 4, 5, 6] rfl ?_
  exact K (vp_updL fo 0 (((nI (psE n σ))).toInt64)) (u1.2) f g1 g2 gp (upS gh nx u1.1) (fwN nx) (mnN ct) f1 f2 no ot eo v tx ip (upN (upN w 5 (rmN (w 5))) 1 0) (psS n σ) aw (rmH h (w 5) σ) s2 cells slots (by omega) (by omega) (H.push (by omega) (by omega) hu1.1 hu1.2 ((psS_inv n σ hv (by omega)).mono (by omega) (by omega)) (by rw [psS_0]; exact hl))
set_option maxRecDepth 100000 in
set_option maxHeartbeats 8000000 in
theorem lc_41_no (C : zC p s m args c cL_law 9 wsL_law RL D (zTy κ) A) (hXc : aX adK adV A s s.heap) (hls : l.stackTraces = false) (hX : va_X sc L xs s s.heap) (hb0 : sc < s.heap.size) (hA0 : ¬ A sc) (hhf : ∀ j, j < 10 → hf j = some (Hs j 0)) (hi6 : i + 6 ≤ L) (hL : L ≤ 3072) (hcr : cells + 1 ≤ 601024 ∧ slots + 6 ≤ 7293034) (H : LI M g g1 g2 gh nx ct f1 f2 no v tx ip w σ h s2) (hM1 : 700000 ≤ M) (hM : M ≤ 1400000) (K : LGO p l e s m args below meth c D A Q sc κ ra la lb oa Ad AA Hs hf 2685 (M + 1200) i (cells + 1) (slots + 6)) (x : Int32) (hx : inI x (nI 1) (nI 99) = false) (hx19 : xs (i + 1) = x) : zW p l e RML s m args below meth c 9 D A cells slots Q (LAWW κ ra la lb oa Ad AA Hs hf fo g f g1 g2 gp gh nx ct f1 f2 no ot eo v tx ip w σ aw h s2) [(0, .ref (sc)), (1, .ref (ra)), (2, .ref (Ad 0)), (3, .ref (oa)), (4, .int (nI i))] 1988 [] := by
  obtain ⟨hr, hv, ht0⟩ := id H.1
  obtain ⟨hnx, hct, h5, -⟩ := id H.2.1
  obtain ⟨q1, q2, h7, -, -⟩ := id H.2.2.1
  obtain ⟨v1, hw9, v2, ht⟩ := id H.2.2.2.1
  obtain ⟨hno, hn64⟩ := id H.2.2.2.2
  have n1 := hv.n1
  have n2 := hv.n2
  refine z_aload_n C dL_law_1988 1 rfl ?_
  refine z_aload_n C dL_law_1989 0 rfl ?_
  refine z_iload C dL_law_1990 4 rfl ?_
  refine z_iconst (v := nI 1) C dL_law_1992 (by decide) ?_
  refine zn_iadd C dL_law_1993 ?_
  refine z_sld C hX hb0 hA0 (i := i + 1) (by omega) (by omega) hx19 dL_law_1994 ?_
  refine z_aload_n C dL_law_1995 3 rfl ?_
  refine zh_callS C (aX_ok adK adV) hXc (mL_advance_no l D κ adK adV (AA 0) g ra (AA 1 0) (AA 2 0) la lb (AA 6 0) (AA 5 0) σ M x hls hr hv hx oa fo) gL_law_L_advance rfl rfl rfl hdL_advance ⟨(Nat.le_of_ble_eq_true rfl), (Nat.le_of_ble_eq_true rfl)⟩ _ (fun u1 => OUTW κ oa fo ++ (MW κ Ad eo ip w σ aw (hiF h) (hiF s2) ot ++ (SW κ (AA 0) g ++ (RC ra (AA 0 0) (AA 1 0) (AA 2 0) la lb (AA 6 0) (AA 5 0) ++ (SW κ (AA 1) f ++ (HO κ (AA 2) hf nx ct ++ (hW κ Hs gh 10 ++ (SW κ (AA 3) g1 ++ (SO la (AA 3 0) f1 ++ (SW κ (AA 4) g2 ++ (SO lb (AA 4 0) f2 ++ (OW κ (AA 5) no ot ++ (SW κ (AA 7) gp ++ PW κ (AA 6) (AA 7) eo v tx))))))))))))) pmH_S (fun u1 => pmH_S.symm) rfl (Nat.le_of_ble_eq_true rfl) dL_law_1996 ⟨by show _ ≤ 601024; omega, by show _ ≤ 7293034; omega⟩ (fun u1 hu1 => ?_)
  refine z_istore C [(5, .int (nI 1)), (0, .ref (sc)), (1, .ref (ra)), (2, .ref (Ad 0)), (3, .ref (oa)), (4, .int (nI i))] dL_law_1999 (by decide) rfl ?_
  refine z_aload_n C dL_law_2001 3 rfl ?_
  refine z_aload_n C dL_law_2002 1 rfl ?_
  refine z_iload C dL_law_2003 5 rfl ?_
  refine z_iconst (v := nI 1) C dL_law_2005 (by decide) ?_
  refine zn_iadd C dL_law_2006 ?_
  refine z_sld C hX hb0 hA0 (i := i + 1) (by omega) (by omega) hx19 dL_law_2007 ?_
  refine z_callV C (mX6_advance_no l D κ Ad eo ip w σ aw (hiF h) (hiF s2) ot M x hv.1 hx) gL_law_X6_advance rfl rfl rfl hdX6_advance ⟨(Nat.le_of_ble_eq_true rfl), (Nat.le_of_ble_eq_true rfl)⟩ 0 rfl rfl _ (fun u2 => OUTW κ oa fo ++ (MW κ Ad eo ip (upN w 1 1) σ aw (hiF h) (hiF s2) ot ++ (SW κ (AA 0) g ++ (RC ra (AA 0 0) (AA 1 0) (AA 2 0) la lb (AA 6 0) (AA 5 0) ++ (SW κ (AA 1) f ++ (HO κ (AA 2) hf nx ct ++ (hW κ Hs gh 10 ++ (SW κ (AA 3) g1 ++ (SO la (AA 3 0) f1 ++ (SW κ (AA 4) g2 ++ (SO lb (AA 4 0) f2 ++ (OW κ (AA 5) no ot ++ (SW κ (AA 7) gp ++ PW κ (AA 6) (AA 7) eo v tx))))))))))))) pmM (fun u2 => pmM.symm) rfl (Nat.le_of_ble_eq_true rfl) dL_law_2008 ⟨by show _ ≤ 601024; omega, by show _ ≤ 7293034; omega⟩ (fun u2 hu2 => ?_)
  refine z_istore C [(6, .int ((nI 0))), (5, .int (nI 1)), (0, .ref (sc)), (1, .ref (ra)), (2, .ref (Ad 0)), (3, .ref (oa)), (4, .int (nI i))] dL_law_2011 (by decide) rfl ?_
  refine z_aload_n C dL_law_2013 4 rfl ?_
  refine z_callV C (mX6_thrown l D κ Ad eo ip (upN w 1 1) σ aw (hiF h) (hiF s2) ot) gL_law_X6_thrown rfl rfl rfl hdX6_thrown ⟨(Nat.le_of_ble_eq_true rfl), (Nat.le_of_ble_eq_true rfl)⟩ 0 rfl rfl _ (fun _ => OUTW κ oa fo ++ (MW κ Ad eo ip (upN w 1 1) σ aw (hiF h) (hiF s2) ot ++ (SW κ (AA 0) g ++ (RC ra (AA 0 0) (AA 1 0) (AA 2 0) la lb (AA 6 0) (AA 5 0) ++ (SW κ (AA 1) f ++ (HO κ (AA 2) hf nx ct ++ (hW κ Hs gh 10 ++ (SW κ (AA 3) g1 ++ (SO la (AA 3 0) f1 ++ (SW κ (AA 4) g2 ++ (SO lb (AA 4 0) f2 ++ (OW κ (AA 5) no ot ++ (SW κ (AA 7) gp ++ PW κ (AA 6) (AA 7) eo v tx))))))))))))) pmM (fun _ => pmM.symm) rfl (Nat.le_of_ble_eq_true rfl) dL_law_2014 ⟨by show _ ≤ 601024; omega, by show _ ≤ 7293034; omega⟩ (fun _ _ => ?_)
  refine z_iload C dL_law_2017 1 rfl ?_
  refine z_icmpE C 2024 rfl dL_law_2019 (by decide) ?_
  refine z_iload C dL_law_2024 1 rfl ?_
  refine z_if_ne C 2041 dL_law_2026 (by decide) (fun _ => ?_) (fun q => absurd q (by decide))
  refine z_goto (tgt := 2685) C dL_law_2041 (by decide) ?_
  refine z_lv [2, 3, 4, 5, 6] rfl ?_
  exact K fo g f g1 g2 gp gh nx ct f1 f2 no ot eo v tx ip (upN w 1 1) σ aw h s2 (cells + 1) (slots + 6) (by omega) (by omega) ((H.mono (by omega) (by omega)).w1 _)
set_option maxRecDepth 100000 in
set_option maxHeartbeats 8000000 in
theorem lc_41_lim (C : zC p s m args c cL_law 9 wsL_law RL D (zTy κ) A) (hXc : aX adK adV A s s.heap) (hls : l.stackTraces = false) (hX : va_X sc L xs s s.heap) (hb0 : sc < s.heap.size) (hA0 : ¬ A sc) (hhf : ∀ j, j < 10 → hf j = some (Hs j 0)) (hi6 : i + 6 ≤ L) (hL : L ≤ 3072) (hcr : cells + 1 ≤ 601024 ∧ slots + 6 ≤ 7293034) (H : LI M g g1 g2 gh nx ct f1 f2 no v tx ip w σ h s2) (hM1 : 700000 ≤ M) (hM : M ≤ 1400000) (K : LGO p l e s m args below meth c D A Q sc κ ra la lb oa Ad AA Hs hf 2685 (M + 1200) i (cells + 1) (slots + 6)) (n : Nat) (h1n : 1 ≤ n) (h2n : n ≤ 99) (hl : 9999 < σ 0 + n) (hx19 : xs (i + 1) = nI n) : zW p l e RML s m args below meth c 9 D A cells slots Q (LAWW κ ra la lb oa Ad AA Hs hf fo g f g1 g2 gp gh nx ct f1 f2 no ot eo v tx ip w σ aw h s2) [(0, .ref (sc)), (1, .ref (ra)), (2, .ref (Ad 0)), (3, .ref (oa)), (4, .int (nI i))] 1988 [] := by
  obtain ⟨hr, hv, ht0⟩ := id H.1
  obtain ⟨hnx, hct, h5, -⟩ := id H.2.1
  obtain ⟨q1, q2, h7, -, -⟩ := id H.2.2.1
  obtain ⟨v1, hw9, v2, ht⟩ := id H.2.2.2.1
  obtain ⟨hno, hn64⟩ := id H.2.2.2.2
  have n1 := hv.n1
  have n2 := hv.n2
  refine z_aload_n C dL_law_1988 1 rfl ?_
  refine z_aload_n C dL_law_1989 0 rfl ?_
  refine z_iload C dL_law_1990 4 rfl ?_
  refine z_iconst (v := nI 1) C dL_law_1992 (by decide) ?_
  refine zn_iadd C dL_law_1993 ?_
  refine z_sld C hX hb0 hA0 (i := i + 1) (by omega) (by omega) hx19 dL_law_1994 ?_
  refine z_aload_n C dL_law_1995 3 rfl ?_
  refine zh_callS C (aX_ok adK adV) hXc (mL_advance_lim l D κ adK adV (AA 0) g ra (AA 1 0) (AA 2 0) la lb (AA 6 0) (AA 5 0) σ M n hls hr hv h1n h2n ht0 hl oa fo) gL_law_L_advance rfl rfl rfl hdL_advance ⟨(Nat.le_of_ble_eq_true rfl), (Nat.le_of_ble_eq_true rfl)⟩ _ (fun u1 => OUTW κ oa fo ++ (MW κ Ad eo ip w σ aw (hiF h) (hiF s2) ot ++ (SW κ (AA 0) g ++ (RC ra (AA 0 0) (AA 1 0) (AA 2 0) la lb (AA 6 0) (AA 5 0) ++ (SW κ (AA 1) f ++ (HO κ (AA 2) hf nx ct ++ (hW κ Hs gh 10 ++ (SW κ (AA 3) g1 ++ (SO la (AA 3 0) f1 ++ (SW κ (AA 4) g2 ++ (SO lb (AA 4 0) f2 ++ (OW κ (AA 5) no ot ++ (SW κ (AA 7) gp ++ PW κ (AA 6) (AA 7) eo v tx))))))))))))) pmH_S (fun u1 => pmH_S.symm) rfl (Nat.le_of_ble_eq_true rfl) dL_law_1996 ⟨by show _ ≤ 601024; omega, by show _ ≤ 7293034; omega⟩ (fun u1 hu1 => ?_)
  refine z_istore C [(5, .int (nI 2)), (0, .ref (sc)), (1, .ref (ra)), (2, .ref (Ad 0)), (3, .ref (oa)), (4, .int (nI i))] dL_law_1999 (by decide) rfl ?_
  refine z_aload_n C dL_law_2001 3 rfl ?_
  refine z_aload_n C dL_law_2002 1 rfl ?_
  refine z_iload C dL_law_2003 5 rfl ?_
  refine z_iconst (v := nI 1) C dL_law_2005 (by decide) ?_
  refine zn_iadd C dL_law_2006 ?_
  refine z_sld C hX hb0 hA0 (i := i + 1) (by omega) (by omega) hx19 dL_law_2007 ?_
  refine z_callV C (mX6_advance_lim l D κ Ad eo ip w σ aw (hiF h) (hiF s2) ot M n hv.1 (by first | assumption | omega) (by first | assumption | omega) (by first | assumption | omega)) gL_law_X6_advance rfl rfl rfl hdX6_advance ⟨(Nat.le_of_ble_eq_true rfl), (Nat.le_of_ble_eq_true rfl)⟩ 0 rfl rfl _ (fun u2 => OUTW κ oa fo ++ (MW κ Ad eo ip (upN w 1 2) σ aw (hiF h) (hiF s2) ot ++ (SW κ (AA 0) g ++ (RC ra (AA 0 0) (AA 1 0) (AA 2 0) la lb (AA 6 0) (AA 5 0) ++ (SW κ (AA 1) f ++ (HO κ (AA 2) hf nx ct ++ (hW κ Hs gh 10 ++ (SW κ (AA 3) g1 ++ (SO la (AA 3 0) f1 ++ (SW κ (AA 4) g2 ++ (SO lb (AA 4 0) f2 ++ (OW κ (AA 5) no ot ++ (SW κ (AA 7) gp ++ PW κ (AA 6) (AA 7) eo v tx))))))))))))) pmM (fun u2 => pmM.symm) rfl (Nat.le_of_ble_eq_true rfl) dL_law_2008 ⟨by show _ ≤ 601024; omega, by show _ ≤ 7293034; omega⟩ (fun u2 hu2 => ?_)
  refine z_istore C [(6, .int ((nI 0))), (5, .int (nI 2)), (0, .ref (sc)), (1, .ref (ra)), (2, .ref (Ad 0)), (3, .ref (oa)), (4, .int (nI i))] dL_law_2011 (by decide) rfl ?_
  refine z_aload_n C dL_law_2013 4 rfl ?_
  refine z_callV C (mX6_thrown l D κ Ad eo ip (upN w 1 2) σ aw (hiF h) (hiF s2) ot) gL_law_X6_thrown rfl rfl rfl hdX6_thrown ⟨(Nat.le_of_ble_eq_true rfl), (Nat.le_of_ble_eq_true rfl)⟩ 0 rfl rfl _ (fun _ => OUTW κ oa fo ++ (MW κ Ad eo ip (upN w 1 2) σ aw (hiF h) (hiF s2) ot ++ (SW κ (AA 0) g ++ (RC ra (AA 0 0) (AA 1 0) (AA 2 0) la lb (AA 6 0) (AA 5 0) ++ (SW κ (AA 1) f ++ (HO κ (AA 2) hf nx ct ++ (hW κ Hs gh 10 ++ (SW κ (AA 3) g1 ++ (SO la (AA 3 0) f1 ++ (SW κ (AA 4) g2 ++ (SO lb (AA 4 0) f2 ++ (OW κ (AA 5) no ot ++ (SW κ (AA 7) gp ++ PW κ (AA 6) (AA 7) eo v tx))))))))))))) pmM (fun _ => pmM.symm) rfl (Nat.le_of_ble_eq_true rfl) dL_law_2014 ⟨by show _ ≤ 601024; omega, by show _ ≤ 7293034; omega⟩ (fun _ _ => ?_)
  refine z_iload C dL_law_2017 1 rfl ?_
  refine z_icmpE C 2024 rfl dL_law_2019 (by decide) ?_
  refine z_iload C dL_law_2024 1 rfl ?_
  refine z_if_ne C 2041 dL_law_2026 (by decide) (fun _ => ?_) (fun q => absurd q (by decide))
  refine z_goto (tgt := 2685) C dL_law_2041 (by decide) ?_
  refine z_lv [2, 3, 4, 5, 6] rfl ?_
  exact K fo g f g1 g2 gp gh nx ct f1 f2 no ot eo v tx ip (upN w 1 2) σ aw h s2 (cells + 1) (slots + 6) (by omega) (by omega) ((H.mono (by omega) (by omega)).w1 _)
set_option maxRecDepth 100000 in
set_option maxHeartbeats 8000000 in
theorem lc_42_ok (C : zC p s m args c cL_law 9 wsL_law RL D (zTy κ) A) (hXc : aX adK adV A s s.heap) (hls : l.stackTraces = false) (hX : va_X sc L xs s s.heap) (hb0 : sc < s.heap.size) (hA0 : ¬ A sc) (hhf : ∀ j, j < 10 → hf j = some (Hs j 0)) (hi6 : i + 6 ≤ L) (hL : L ≤ 3072) (hcr : cells + 1 ≤ 601024 ∧ slots + 6 ≤ 7293034) (H : LI M g g1 g2 gh nx ct f1 f2 no v tx ip w σ h s2) (hM1 : 700000 ≤ M) (hM : M ≤ 1400000) (K : LGO p l e s m args below meth c D A Q sc κ ra la lb oa Ad AA Hs hf 2685 (M + 1200) i (cells + 1) (slots + 6)) (b : Nat) (hb : b < σ 1) (h0 : rsn σ b = 0) (hx19 : xs (i + 1) = nI b) : zW p l e RML s m args below meth c 9 D A cells slots Q (LAWW κ ra la lb oa Ad AA Hs hf fo g f g1 g2 gp gh nx ct f1 f2 no ot eo v tx ip w σ aw h s2) [(0, .ref (sc)), (1, .ref (ra)), (2, .ref (Ad 0)), (3, .ref (oa)), (4, .int (nI i))] 2044 [] := by
  obtain ⟨hr, hv, ht0⟩ := id H.1
  obtain ⟨hnx, hct, h5, -⟩ := id H.2.1
  obtain ⟨q1, q2, h7, -, -⟩ := id H.2.2.1
  obtain ⟨v1, hw9, v2, ht⟩ := id H.2.2.2.1
  obtain ⟨hno, hn64⟩ := id H.2.2.2.2
  have n1 := hv.n1
  have n2 := hv.n2
  refine z_aload_n C dL_law_2044 1 rfl ?_
  refine z_aload_n C dL_law_2045 0 rfl ?_
  refine z_iload C dL_law_2046 4 rfl ?_
  refine z_iconst (v := nI 1) C dL_law_2048 (by decide) ?_
  refine zn_iadd C dL_law_2049 ?_
  refine z_sld C hX hb0 hA0 (i := i + 1) (by omega) (by omega) hx19 dL_law_2050 ?_
  refine z_aload_n C dL_law_2051 3 rfl ?_
  refine zh_callS C (aX_ok adK adV) hXc (mL_pull_ok l D κ (AA 0) (AA 2) Hs hf ra (AA 1 0) la lb (AA 6 0) (AA 5 0) g nx ct gh σ M b hr hv hhf hnx hct hb h0 adK adV oa fo) gL_law_L_pull rfl rfl rfl hdL_pull ⟨(Nat.le_of_ble_eq_true rfl), (Nat.le_of_ble_eq_true rfl)⟩ _ (fun u1 => OUTW κ oa (vp_updL fo 0 (((nI (sumL (fun i => upN σ (5 + 6 * b + 4) 1 (5 + 6 * i + 4)) (upN σ (5 + 6 * b + 4) 1 1)))).toInt64)) ++ (MW κ Ad eo ip w σ aw (hiF h) (hiF s2) ot ++ (SW κ (AA 0) u1.2 ++ (RC ra (AA 0 0) (AA 1 0) (AA 2 0) la lb (AA 6 0) (AA 5 0) ++ (SW κ (AA 1) f ++ (HO κ (AA 2) hf (fwN nx) (mnN ct) ++ (hW κ Hs (upS gh nx u1.1) 10 ++ (SW κ (AA 3) g1 ++ (SO la (AA 3 0) f1 ++ (SW κ (AA 4) g2 ++ (SO lb (AA 4 0) f2 ++ (OW κ (AA 5) no ot ++ (SW κ (AA 7) gp ++ PW κ (AA 6) (AA 7) eo v tx))))))))))))) pmH_k (fun u1 => pmH_k.symm) rfl (Nat.le_of_ble_eq_true rfl) dL_law_2052 ⟨by show _ ≤ 601024; omega, by show _ ≤ 7293034; omega⟩ (fun u1 hu1 => ?_)
  refine z_istore C [(5, .int (nI 0)), (0, .ref (sc)), (1, .ref (ra)), (2, .ref (Ad 0)), (3, .ref (oa)), (4, .int (nI i))] dL_law_2055 (by decide) rfl ?_
  refine z_aload_n C dL_law_2057 3 rfl ?_
  refine z_aload_n C dL_law_2058 1 rfl ?_
  refine z_iload C dL_law_2059 5 rfl ?_
  refine z_iconst (v := nI 1) C dL_law_2061 (by decide) ?_
  refine zn_iadd C dL_law_2062 ?_
  refine z_sld C hX hb0 hA0 (i := i + 1) (by omega) (by omega) hx19 dL_law_2063 ?_
  refine z_callV C (mX6_pull_ok l D κ Ad eo ip w σ aw (hiF h) (hiF s2) ot M h b hv.1 (by first | assumption | omega) (by first | assumption | omega) (by first | assumption | omega)) gL_law_X6_pull rfl rfl rfl hdX6_pull ⟨(Nat.le_of_ble_eq_true rfl), (Nat.le_of_ble_eq_true rfl)⟩ 0 rfl rfl _ (fun u2 => OUTW κ oa (vp_updL fo 0 (((nI (sumL (fun i => upN σ (5 + 6 * b + 4) 1 (5 + 6 * i + 4)) (upN σ (5 + 6 * b + 4) 1 1)))).toInt64)) ++ (MW κ Ad eo ip (upN (upN w 5 (rmN (w 5))) 1 0) (upN σ (5 + 6 * b + 4) 1) aw (hiF (rmH h (w 5) σ)) (hiF s2) ot ++ (SW κ (AA 0) u1.2 ++ (RC ra (AA 0 0) (AA 1 0) (AA 2 0) la lb (AA 6 0) (AA 5 0) ++ (SW κ (AA 1) f ++ (HO κ (AA 2) hf (fwN nx) (mnN ct) ++ (hW κ Hs (upS gh nx u1.1) 10 ++ (SW κ (AA 3) g1 ++ (SO la (AA 3 0) f1 ++ (SW κ (AA 4) g2 ++ (SO lb (AA 4 0) f2 ++ (OW κ (AA 5) no ot ++ (SW κ (AA 7) gp ++ PW κ (AA 6) (AA 7) eo v tx))))))))))))) pmM (fun u2 => pmM.symm) rfl (Nat.le_of_ble_eq_true rfl) dL_law_2064 ⟨by show _ ≤ 601024; omega, by show _ ≤ 7293034; omega⟩ (fun u2 hu2 => ?_)
  refine z_istore C [(6, .int ((nI (sumL (fun i => upN σ (5 + 6 * b + 4) 1 (5 + 6 * i + 4)) (upN σ (5 + 6 * b + 4) 1 1))))), (5, .int (nI 0)), (0, .ref (sc)), (1, .ref (ra)), (2, .ref (Ad 0)), (3, .ref (oa)), (4, .int (nI i))] dL_law_2067 (by decide) rfl ?_
  refine z_aload_n C dL_law_2069 4 rfl ?_
  refine z_callV C (mX6_thrown l D κ Ad eo ip (upN (upN w 5 (rmN (w 5))) 1 0) (upN σ (5 + 6 * b + 4) 1) aw (hiF (rmH h (w 5) σ)) (hiF s2) ot) gL_law_X6_thrown rfl rfl rfl hdX6_thrown ⟨(Nat.le_of_ble_eq_true rfl), (Nat.le_of_ble_eq_true rfl)⟩ 0 rfl rfl _ (fun _ => OUTW κ oa (vp_updL fo 0 (((nI (sumL (fun i => upN σ (5 + 6 * b + 4) 1 (5 + 6 * i + 4)) (upN σ (5 + 6 * b + 4) 1 1)))).toInt64)) ++ (MW κ Ad eo ip (upN (upN w 5 (rmN (w 5))) 1 0) (upN σ (5 + 6 * b + 4) 1) aw (hiF (rmH h (w 5) σ)) (hiF s2) ot ++ (SW κ (AA 0) u1.2 ++ (RC ra (AA 0 0) (AA 1 0) (AA 2 0) la lb (AA 6 0) (AA 5 0) ++ (SW κ (AA 1) f ++ (HO κ (AA 2) hf (fwN nx) (mnN ct) ++ (hW κ Hs (upS gh nx u1.1) 10 ++ (SW κ (AA 3) g1 ++ (SO la (AA 3 0) f1 ++ (SW κ (AA 4) g2 ++ (SO lb (AA 4 0) f2 ++ (OW κ (AA 5) no ot ++ (SW κ (AA 7) gp ++ PW κ (AA 6) (AA 7) eo v tx))))))))))))) pmM (fun _ => pmM.symm) rfl (Nat.le_of_ble_eq_true rfl) dL_law_2070 ⟨by show _ ≤ 601024; omega, by show _ ≤ 7293034; omega⟩ (fun _ _ => ?_)
  refine z_iload C dL_law_2073 1 rfl ?_
  refine z_icmpE C 2080 rfl dL_law_2075 (by decide) ?_
  refine z_iload C dL_law_2080 1 rfl ?_
  refine z_if_ne C 2097 dL_law_2082 (by decide) (fun q => absurd (by decide) q) (fun _ => ?_)
  refine z_aload_n C dL_law_2085 5 rfl ?_
  refine z_iconst (v := nI 0) C dL_law_2086 (by decide) ?_
  refine z_lald C 0 4 rfl rfl (i := 0) (by decide) (by decide) dL_law_2087 ?_
  refine z_iload C dL_law_2088 0 rfl ?_
  refine z_i2l C dL_law_2090 rfl ?_
  refine z_lcmpE C (updL_0) dL_law_2091 ?_
  refine z_if_eq C 2097 dL_law_2092 (by decide) (fun _ => ?_) (fun q => absurd (by decide) q)
  refine z_goto (tgt := 2685) C dL_law_2097 (by decide) ?_
  refine z_lv [2, 3, 4, 5, 6] rfl ?_
  exact K (vp_updL fo 0 (((nI (sumL (fun i => upN σ (5 + 6 * b + 4) 1 (5 + 6 * i + 4)) (upN σ (5 + 6 * b + 4) 1 1)))).toInt64)) (u1.2) f g1 g2 gp (upS gh nx u1.1) (fwN nx) (mnN ct) f1 f2 no ot eo v tx ip (upN (upN w 5 (rmN (w 5))) 1 0) (upN σ (5 + 6 * b + 4) 1) aw (rmH h (w 5) σ) s2 cells slots (by omega) (by omega) (H.push (by omega) (by omega) hu1.1 hu1.2 ((hv.clr (by omega) (by decide)).mono (by omega) (by omega)) (by rw [upN_n (by omega)]; exact ht0))
set_option maxRecDepth 100000 in
set_option maxHeartbeats 8000000 in
theorem lc_42_no (C : zC p s m args c cL_law 9 wsL_law RL D (zTy κ) A) (hXc : aX adK adV A s s.heap) (hls : l.stackTraces = false) (hX : va_X sc L xs s s.heap) (hb0 : sc < s.heap.size) (hA0 : ¬ A sc) (hhf : ∀ j, j < 10 → hf j = some (Hs j 0)) (hi6 : i + 6 ≤ L) (hL : L ≤ 3072) (hcr : cells + 1 ≤ 601024 ∧ slots + 6 ≤ 7293034) (H : LI M g g1 g2 gh nx ct f1 f2 no v tx ip w σ h s2) (hM1 : 700000 ≤ M) (hM : M ≤ 1400000) (K : LGO p l e s m args below meth c D A Q sc κ ra la lb oa Ad AA Hs hf 2685 (M + 1200) i (cells + 1) (slots + 6)) (x : Int32) (hx : isB (σ 1) x = false) (hx19 : xs (i + 1) = x) : zW p l e RML s m args below meth c 9 D A cells slots Q (LAWW κ ra la lb oa Ad AA Hs hf fo g f g1 g2 gp gh nx ct f1 f2 no ot eo v tx ip w σ aw h s2) [(0, .ref (sc)), (1, .ref (ra)), (2, .ref (Ad 0)), (3, .ref (oa)), (4, .int (nI i))] 2044 [] := by
  obtain ⟨hr, hv, ht0⟩ := id H.1
  obtain ⟨hnx, hct, h5, -⟩ := id H.2.1
  obtain ⟨q1, q2, h7, -, -⟩ := id H.2.2.1
  obtain ⟨v1, hw9, v2, ht⟩ := id H.2.2.2.1
  obtain ⟨hno, hn64⟩ := id H.2.2.2.2
  have n1 := hv.n1
  have n2 := hv.n2
  refine z_aload_n C dL_law_2044 1 rfl ?_
  refine z_aload_n C dL_law_2045 0 rfl ?_
  refine z_iload C dL_law_2046 4 rfl ?_
  refine z_iconst (v := nI 1) C dL_law_2048 (by decide) ?_
  refine zn_iadd C dL_law_2049 ?_
  refine z_sld C hX hb0 hA0 (i := i + 1) (by omega) (by omega) hx19 dL_law_2050 ?_
  refine z_aload_n C dL_law_2051 3 rfl ?_
  refine zh_callS C (aX_ok adK adV) hXc (mL_pull_no l D κ adK adV (AA 0) g ra (AA 1 0) (AA 2 0) la lb (AA 6 0) (AA 5 0) σ M x hls hr hv hx oa fo) gL_law_L_pull rfl rfl rfl hdL_pull ⟨(Nat.le_of_ble_eq_true rfl), (Nat.le_of_ble_eq_true rfl)⟩ _ (fun u1 => OUTW κ oa fo ++ (MW κ Ad eo ip w σ aw (hiF h) (hiF s2) ot ++ (SW κ (AA 0) g ++ (RC ra (AA 0 0) (AA 1 0) (AA 2 0) la lb (AA 6 0) (AA 5 0) ++ (SW κ (AA 1) f ++ (HO κ (AA 2) hf nx ct ++ (hW κ Hs gh 10 ++ (SW κ (AA 3) g1 ++ (SO la (AA 3 0) f1 ++ (SW κ (AA 4) g2 ++ (SO lb (AA 4 0) f2 ++ (OW κ (AA 5) no ot ++ (SW κ (AA 7) gp ++ PW κ (AA 6) (AA 7) eo v tx))))))))))))) pmH_S (fun u1 => pmH_S.symm) rfl (Nat.le_of_ble_eq_true rfl) dL_law_2052 ⟨by show _ ≤ 601024; omega, by show _ ≤ 7293034; omega⟩ (fun u1 hu1 => ?_)
  refine z_istore C [(5, .int (nI 1)), (0, .ref (sc)), (1, .ref (ra)), (2, .ref (Ad 0)), (3, .ref (oa)), (4, .int (nI i))] dL_law_2055 (by decide) rfl ?_
  refine z_aload_n C dL_law_2057 3 rfl ?_
  refine z_aload_n C dL_law_2058 1 rfl ?_
  refine z_iload C dL_law_2059 5 rfl ?_
  refine z_iconst (v := nI 1) C dL_law_2061 (by decide) ?_
  refine zn_iadd C dL_law_2062 ?_
  refine z_sld C hX hb0 hA0 (i := i + 1) (by omega) (by omega) hx19 dL_law_2063 ?_
  refine z_callV C (mX6_pull_no l D κ Ad eo ip w σ aw (hiF h) (hiF s2) ot M x hv.1 hx) gL_law_X6_pull rfl rfl rfl hdX6_pull ⟨(Nat.le_of_ble_eq_true rfl), (Nat.le_of_ble_eq_true rfl)⟩ 0 rfl rfl _ (fun u2 => OUTW κ oa fo ++ (MW κ Ad eo ip (upN w 1 1) σ aw (hiF h) (hiF s2) ot ++ (SW κ (AA 0) g ++ (RC ra (AA 0 0) (AA 1 0) (AA 2 0) la lb (AA 6 0) (AA 5 0) ++ (SW κ (AA 1) f ++ (HO κ (AA 2) hf nx ct ++ (hW κ Hs gh 10 ++ (SW κ (AA 3) g1 ++ (SO la (AA 3 0) f1 ++ (SW κ (AA 4) g2 ++ (SO lb (AA 4 0) f2 ++ (OW κ (AA 5) no ot ++ (SW κ (AA 7) gp ++ PW κ (AA 6) (AA 7) eo v tx))))))))))))) pmM (fun u2 => pmM.symm) rfl (Nat.le_of_ble_eq_true rfl) dL_law_2064 ⟨by show _ ≤ 601024; omega, by show _ ≤ 7293034; omega⟩ (fun u2 hu2 => ?_)
  refine z_istore C [(6, .int ((nI 0))), (5, .int (nI 1)), (0, .ref (sc)), (1, .ref (ra)), (2, .ref (Ad 0)), (3, .ref (oa)), (4, .int (nI i))] dL_law_2067 (by decide) rfl ?_
  refine z_aload_n C dL_law_2069 4 rfl ?_
  refine z_callV C (mX6_thrown l D κ Ad eo ip (upN w 1 1) σ aw (hiF h) (hiF s2) ot) gL_law_X6_thrown rfl rfl rfl hdX6_thrown ⟨(Nat.le_of_ble_eq_true rfl), (Nat.le_of_ble_eq_true rfl)⟩ 0 rfl rfl _ (fun _ => OUTW κ oa fo ++ (MW κ Ad eo ip (upN w 1 1) σ aw (hiF h) (hiF s2) ot ++ (SW κ (AA 0) g ++ (RC ra (AA 0 0) (AA 1 0) (AA 2 0) la lb (AA 6 0) (AA 5 0) ++ (SW κ (AA 1) f ++ (HO κ (AA 2) hf nx ct ++ (hW κ Hs gh 10 ++ (SW κ (AA 3) g1 ++ (SO la (AA 3 0) f1 ++ (SW κ (AA 4) g2 ++ (SO lb (AA 4 0) f2 ++ (OW κ (AA 5) no ot ++ (SW κ (AA 7) gp ++ PW κ (AA 6) (AA 7) eo v tx))))))))))))) pmM (fun _ => pmM.symm) rfl (Nat.le_of_ble_eq_true rfl) dL_law_2070 ⟨by show _ ≤ 601024; omega, by show _ ≤ 7293034; omega⟩ (fun _ _ => ?_)
  refine z_iload C dL_law_2073 1 rfl ?_
  refine z_icmpE C 2080 rfl dL_law_2075 (by decide) ?_
  refine z_iload C dL_law_2080 1 rfl ?_
  refine z_if_ne C 2097 dL_law_2082 (by decide) (fun _ => ?_) (fun q => absurd q (by decide))
  refine z_goto (tgt := 2685) C dL_law_2097 (by decide) ?_
  refine z_lv [2, 3, 4, 5, 6] rfl ?_
  exact K fo g f g1 g2 gp gh nx ct f1 f2 no ot eo v tx ip (upN w 1 1) σ aw h s2 (cells + 1) (slots + 6) (by omega) (by omega) ((H.mono (by omega) (by omega)).w1 _)
set_option maxRecDepth 100000 in
set_option maxHeartbeats 8000000 in
theorem lc_42_bad (C : zC p s m args c cL_law 9 wsL_law RL D (zTy κ) A) (hXc : aX adK adV A s s.heap) (hls : l.stackTraces = false) (hX : va_X sc L xs s s.heap) (hb0 : sc < s.heap.size) (hA0 : ¬ A sc) (hhf : ∀ j, j < 10 → hf j = some (Hs j 0)) (hi6 : i + 6 ≤ L) (hL : L ≤ 3072) (hcr : cells + 1 ≤ 601024 ∧ slots + 6 ≤ 7293034) (H : LI M g g1 g2 gh nx ct f1 f2 no v tx ip w σ h s2) (hM1 : 700000 ≤ M) (hM : M ≤ 1400000) (K : LGO p l e s m args below meth c D A Q sc κ ra la lb oa Ad AA Hs hf 2685 (M + 1200) i (cells + 1) (slots + 6)) (b : Nat) (hb : b < σ 1) (h0 : rsn σ b ≠ 0) (hx19 : xs (i + 1) = nI b) : zW p l e RML s m args below meth c 9 D A cells slots Q (LAWW κ ra la lb oa Ad AA Hs hf fo g f g1 g2 gp gh nx ct f1 f2 no ot eo v tx ip w σ aw h s2) [(0, .ref (sc)), (1, .ref (ra)), (2, .ref (Ad 0)), (3, .ref (oa)), (4, .int (nI i))] 2044 [] := by
  obtain ⟨hr, hv, ht0⟩ := id H.1
  obtain ⟨hnx, hct, h5, -⟩ := id H.2.1
  obtain ⟨q1, q2, h7, -, -⟩ := id H.2.2.1
  obtain ⟨v1, hw9, v2, ht⟩ := id H.2.2.2.1
  obtain ⟨hno, hn64⟩ := id H.2.2.2.2
  have n1 := hv.n1
  have n2 := hv.n2
  refine z_aload_n C dL_law_2044 1 rfl ?_
  refine z_aload_n C dL_law_2045 0 rfl ?_
  refine z_iload C dL_law_2046 4 rfl ?_
  refine z_iconst (v := nI 1) C dL_law_2048 (by decide) ?_
  refine zn_iadd C dL_law_2049 ?_
  refine z_sld C hX hb0 hA0 (i := i + 1) (by omega) (by omega) hx19 dL_law_2050 ?_
  refine z_aload_n C dL_law_2051 3 rfl ?_
  refine zh_callS C (aX_ok adK adV) hXc (mL_pull_bad l D κ adK adV (AA 0) g ra (AA 1 0) (AA 2 0) la lb (AA 6 0) (AA 5 0) σ M b hls hr hv hb h0 oa fo) gL_law_L_pull rfl rfl rfl hdL_pull ⟨(Nat.le_of_ble_eq_true rfl), (Nat.le_of_ble_eq_true rfl)⟩ _ (fun u1 => OUTW κ oa fo ++ (MW κ Ad eo ip w σ aw (hiF h) (hiF s2) ot ++ (SW κ (AA 0) g ++ (RC ra (AA 0 0) (AA 1 0) (AA 2 0) la lb (AA 6 0) (AA 5 0) ++ (SW κ (AA 1) f ++ (HO κ (AA 2) hf nx ct ++ (hW κ Hs gh 10 ++ (SW κ (AA 3) g1 ++ (SO la (AA 3 0) f1 ++ (SW κ (AA 4) g2 ++ (SO lb (AA 4 0) f2 ++ (OW κ (AA 5) no ot ++ (SW κ (AA 7) gp ++ PW κ (AA 6) (AA 7) eo v tx))))))))))))) pmH_S (fun u1 => pmH_S.symm) rfl (Nat.le_of_ble_eq_true rfl) dL_law_2052 ⟨by show _ ≤ 601024; omega, by show _ ≤ 7293034; omega⟩ (fun u1 hu1 => ?_)
  refine z_istore C [(5, .int (nI 2)), (0, .ref (sc)), (1, .ref (ra)), (2, .ref (Ad 0)), (3, .ref (oa)), (4, .int (nI i))] dL_law_2055 (by decide) rfl ?_
  refine z_aload_n C dL_law_2057 3 rfl ?_
  refine z_aload_n C dL_law_2058 1 rfl ?_
  refine z_iload C dL_law_2059 5 rfl ?_
  refine z_iconst (v := nI 1) C dL_law_2061 (by decide) ?_
  refine zn_iadd C dL_law_2062 ?_
  refine z_sld C hX hb0 hA0 (i := i + 1) (by omega) (by omega) hx19 dL_law_2063 ?_
  refine z_callV C (mX6_pull_ob l D κ Ad eo ip w σ aw (hiF h) (hiF s2) ot M b hv.1 (by first | assumption | omega) (by first | assumption | omega)) gL_law_X6_pull rfl rfl rfl hdX6_pull ⟨(Nat.le_of_ble_eq_true rfl), (Nat.le_of_ble_eq_true rfl)⟩ 0 rfl rfl _ (fun u2 => OUTW κ oa fo ++ (MW κ Ad eo ip (upN w 1 2) σ aw (hiF h) (hiF s2) ot ++ (SW κ (AA 0) g ++ (RC ra (AA 0 0) (AA 1 0) (AA 2 0) la lb (AA 6 0) (AA 5 0) ++ (SW κ (AA 1) f ++ (HO κ (AA 2) hf nx ct ++ (hW κ Hs gh 10 ++ (SW κ (AA 3) g1 ++ (SO la (AA 3 0) f1 ++ (SW κ (AA 4) g2 ++ (SO lb (AA 4 0) f2 ++ (OW κ (AA 5) no ot ++ (SW κ (AA 7) gp ++ PW κ (AA 6) (AA 7) eo v tx))))))))))))) pmM (fun u2 => pmM.symm) rfl (Nat.le_of_ble_eq_true rfl) dL_law_2064 ⟨by show _ ≤ 601024; omega, by show _ ≤ 7293034; omega⟩ (fun u2 hu2 => ?_)
  refine z_istore C [(6, .int ((nI 0))), (5, .int (nI 2)), (0, .ref (sc)), (1, .ref (ra)), (2, .ref (Ad 0)), (3, .ref (oa)), (4, .int (nI i))] dL_law_2067 (by decide) rfl ?_
  refine z_aload_n C dL_law_2069 4 rfl ?_
  refine z_callV C (mX6_thrown l D κ Ad eo ip (upN w 1 2) σ aw (hiF h) (hiF s2) ot) gL_law_X6_thrown rfl rfl rfl hdX6_thrown ⟨(Nat.le_of_ble_eq_true rfl), (Nat.le_of_ble_eq_true rfl)⟩ 0 rfl rfl _ (fun _ => OUTW κ oa fo ++ (MW κ Ad eo ip (upN w 1 2) σ aw (hiF h) (hiF s2) ot ++ (SW κ (AA 0) g ++ (RC ra (AA 0 0) (AA 1 0) (AA 2 0) la lb (AA 6 0) (AA 5 0) ++ (SW κ (AA 1) f ++ (HO κ (AA 2) hf nx ct ++ (hW κ Hs gh 10 ++ (SW κ (AA 3) g1 ++ (SO la (AA 3 0) f1 ++ (SW κ (AA 4) g2 ++ (SO lb (AA 4 0) f2 ++ (OW κ (AA 5) no ot ++ (SW κ (AA 7) gp ++ PW κ (AA 6) (AA 7) eo v tx))))))))))))) pmM (fun _ => pmM.symm) rfl (Nat.le_of_ble_eq_true rfl) dL_law_2070 ⟨by show _ ≤ 601024; omega, by show _ ≤ 7293034; omega⟩ (fun _ _ => ?_)
  refine z_iload C dL_law_2073 1 rfl ?_
  refine z_icmpE C 2080 rfl dL_law_2075 (by decide) ?_
  refine z_iload C dL_law_2080 1 rfl ?_
  refine z_if_ne C 2097 dL_law_2082 (by decide) (fun _ => ?_) (fun q => absurd q (by decide))
  refine z_goto (tgt := 2685) C dL_law_2097 (by decide) ?_
  refine z_lv [2, 3, 4, 5, 6] rfl ?_
  exact K fo g f g1 g2 gp gh nx ct f1 f2 no ot eo v tx ip (upN w 1 2) σ aw h s2 (cells + 1) (slots + 6) (by omega) (by omega) ((H.mono (by omega) (by omega)).w1 _)
set_option maxRecDepth 100000 in
set_option maxHeartbeats 8000000 in
theorem lc_43_ok (C : zC p s m args c cL_law 9 wsL_law RL D (zTy κ) A) (hXc : aX adK adV A s s.heap) (hls : l.stackTraces = false) (hX : va_X sc L xs s s.heap) (hb0 : sc < s.heap.size) (hA0 : ¬ A sc) (hhf : ∀ j, j < 10 → hf j = some (Hs j 0)) (hi6 : i + 6 ≤ L) (hL : L ≤ 3072) (hcr : cells + 1 ≤ 601024 ∧ slots + 6 ≤ 7293034) (H : LI M g g1 g2 gh nx ct f1 f2 no v tx ip w σ h s2) (hM1 : 700000 ≤ M) (hM : M ≤ 1400000) (K : LGO p l e s m args below meth c D A Q sc κ ra la lb oa Ad AA Hs hf 2685 (M + 1200) i (cells + 1) (slots + 6)) (b : Nat) (hb : b < σ 1) (h0 : 0 < σ (5 + 6 * b + 4)) (hx19 : xs (i + 1) = nI b) : zW p l e RML s m args below meth c 9 D A cells slots Q (LAWW κ ra la lb oa Ad AA Hs hf fo g f g1 g2 gp gh nx ct f1 f2 no ot eo v tx ip w σ aw h s2) [(0, .ref (sc)), (1, .ref (ra)), (2, .ref (Ad 0)), (3, .ref (oa)), (4, .int (nI i))] 2100 [] := by
  obtain ⟨hr, hv, ht0⟩ := id H.1
  obtain ⟨hnx, hct, h5, -⟩ := id H.2.1
  obtain ⟨q1, q2, h7, -, -⟩ := id H.2.2.1
  obtain ⟨v1, hw9, v2, ht⟩ := id H.2.2.2.1
  obtain ⟨hno, hn64⟩ := id H.2.2.2.2
  have n1 := hv.n1
  have n2 := hv.n2
  refine z_aload_n C dL_law_2100 1 rfl ?_
  refine z_aload_n C dL_law_2101 0 rfl ?_
  refine z_iload C dL_law_2102 4 rfl ?_
  refine z_iconst (v := nI 1) C dL_law_2104 (by decide) ?_
  refine zn_iadd C dL_law_2105 ?_
  refine z_sld C hX hb0 hA0 (i := i + 1) (by omega) (by omega) hx19 dL_law_2106 ?_
  refine z_aload_n C dL_law_2107 3 rfl ?_
  refine zh_callS C (aX_ok adK adV) hXc (mL_setDanger_ok l D κ (AA 0) (AA 2) Hs hf ra (AA 1 0) la lb (AA 6 0) (AA 5 0) g nx ct gh σ M b hr hv hhf hnx hct hb h0 adK adV oa fo) gL_law_L_setDanger rfl rfl rfl hdL_setDanger ⟨(Nat.le_of_ble_eq_true rfl), (Nat.le_of_ble_eq_true rfl)⟩ _ (fun u1 => OUTW κ oa (vp_updL fo 0 (((nI (sumL (fun i => upN σ (5 + 6 * b + 4) 0 (5 + 6 * i + 4)) (upN σ (5 + 6 * b + 4) 0 1)))).toInt64)) ++ (MW κ Ad eo ip w σ aw (hiF h) (hiF s2) ot ++ (SW κ (AA 0) u1.2 ++ (RC ra (AA 0 0) (AA 1 0) (AA 2 0) la lb (AA 6 0) (AA 5 0) ++ (SW κ (AA 1) f ++ (HO κ (AA 2) hf (fwN nx) (mnN ct) ++ (hW κ Hs (upS gh nx u1.1) 10 ++ (SW κ (AA 3) g1 ++ (SO la (AA 3 0) f1 ++ (SW κ (AA 4) g2 ++ (SO lb (AA 4 0) f2 ++ (OW κ (AA 5) no ot ++ (SW κ (AA 7) gp ++ PW κ (AA 6) (AA 7) eo v tx))))))))))))) pmH_k (fun u1 => pmH_k.symm) rfl (Nat.le_of_ble_eq_true rfl) dL_law_2108 ⟨by show _ ≤ 601024; omega, by show _ ≤ 7293034; omega⟩ (fun u1 hu1 => ?_)
  refine z_istore C [(5, .int (nI 0)), (0, .ref (sc)), (1, .ref (ra)), (2, .ref (Ad 0)), (3, .ref (oa)), (4, .int (nI i))] dL_law_2111 (by decide) rfl ?_
  refine z_aload_n C dL_law_2113 3 rfl ?_
  refine z_aload_n C dL_law_2114 1 rfl ?_
  refine z_iload C dL_law_2115 5 rfl ?_
  refine z_iconst (v := nI 1) C dL_law_2117 (by decide) ?_
  refine zn_iadd C dL_law_2118 ?_
  refine z_sld C hX hb0 hA0 (i := i + 1) (by omega) (by omega) hx19 dL_law_2119 ?_
  refine z_callV C (mX6_setDanger_ok l D κ Ad eo ip w σ aw (hiF h) (hiF s2) ot M h b hv.1 (by first | assumption | omega) (by first | assumption | omega) (by first | assumption | omega)) gL_law_X6_setDanger rfl rfl rfl hdX6_setDanger ⟨(Nat.le_of_ble_eq_true rfl), (Nat.le_of_ble_eq_true rfl)⟩ 0 rfl rfl _ (fun u2 => OUTW κ oa (vp_updL fo 0 (((nI (sumL (fun i => upN σ (5 + 6 * b + 4) 0 (5 + 6 * i + 4)) (upN σ (5 + 6 * b + 4) 0 1)))).toInt64)) ++ (MW κ Ad eo ip (upN (upN w 5 (rmN (w 5))) 1 0) (upN σ (5 + 6 * b + 4) 0) aw (hiF (rmH h (w 5) σ)) (hiF s2) ot ++ (SW κ (AA 0) u1.2 ++ (RC ra (AA 0 0) (AA 1 0) (AA 2 0) la lb (AA 6 0) (AA 5 0) ++ (SW κ (AA 1) f ++ (HO κ (AA 2) hf (fwN nx) (mnN ct) ++ (hW κ Hs (upS gh nx u1.1) 10 ++ (SW κ (AA 3) g1 ++ (SO la (AA 3 0) f1 ++ (SW κ (AA 4) g2 ++ (SO lb (AA 4 0) f2 ++ (OW κ (AA 5) no ot ++ (SW κ (AA 7) gp ++ PW κ (AA 6) (AA 7) eo v tx))))))))))))) pmM (fun u2 => pmM.symm) rfl (Nat.le_of_ble_eq_true rfl) dL_law_2120 ⟨by show _ ≤ 601024; omega, by show _ ≤ 7293034; omega⟩ (fun u2 hu2 => ?_)
  refine z_istore C [(6, .int ((nI (sumL (fun i => upN σ (5 + 6 * b + 4) 0 (5 + 6 * i + 4)) (upN σ (5 + 6 * b + 4) 0 1))))), (5, .int (nI 0)), (0, .ref (sc)), (1, .ref (ra)), (2, .ref (Ad 0)), (3, .ref (oa)), (4, .int (nI i))] dL_law_2123 (by decide) rfl ?_
  refine z_aload_n C dL_law_2125 4 rfl ?_
  refine z_callV C (mX6_thrown l D κ Ad eo ip (upN (upN w 5 (rmN (w 5))) 1 0) (upN σ (5 + 6 * b + 4) 0) aw (hiF (rmH h (w 5) σ)) (hiF s2) ot) gL_law_X6_thrown rfl rfl rfl hdX6_thrown ⟨(Nat.le_of_ble_eq_true rfl), (Nat.le_of_ble_eq_true rfl)⟩ 0 rfl rfl _ (fun _ => OUTW κ oa (vp_updL fo 0 (((nI (sumL (fun i => upN σ (5 + 6 * b + 4) 0 (5 + 6 * i + 4)) (upN σ (5 + 6 * b + 4) 0 1)))).toInt64)) ++ (MW κ Ad eo ip (upN (upN w 5 (rmN (w 5))) 1 0) (upN σ (5 + 6 * b + 4) 0) aw (hiF (rmH h (w 5) σ)) (hiF s2) ot ++ (SW κ (AA 0) u1.2 ++ (RC ra (AA 0 0) (AA 1 0) (AA 2 0) la lb (AA 6 0) (AA 5 0) ++ (SW κ (AA 1) f ++ (HO κ (AA 2) hf (fwN nx) (mnN ct) ++ (hW κ Hs (upS gh nx u1.1) 10 ++ (SW κ (AA 3) g1 ++ (SO la (AA 3 0) f1 ++ (SW κ (AA 4) g2 ++ (SO lb (AA 4 0) f2 ++ (OW κ (AA 5) no ot ++ (SW κ (AA 7) gp ++ PW κ (AA 6) (AA 7) eo v tx))))))))))))) pmM (fun _ => pmM.symm) rfl (Nat.le_of_ble_eq_true rfl) dL_law_2126 ⟨by show _ ≤ 601024; omega, by show _ ≤ 7293034; omega⟩ (fun _ _ => ?_)
  refine z_iload C dL_law_2129 1 rfl ?_
  refine z_icmpE C 2136 rfl dL_law_2131 (by decide) ?_
  refine z_iload C dL_law_2136 1 rfl ?_
  refine z_if_ne C 2153 dL_law_2138 (by decide) (fun q => absurd (by decide) q) (fun _ => ?_)
  refine z_aload_n C dL_law_2141 5 rfl ?_
  refine z_iconst (v := nI 0) C dL_law_2142 (by decide) ?_
  refine z_lald C 0 4 rfl rfl (i := 0) (by decide) (by decide) dL_law_2143 ?_
  refine z_iload C dL_law_2144 0 rfl ?_
  refine z_i2l C dL_law_2146 rfl ?_
  refine z_lcmpE C (updL_0) dL_law_2147 ?_
  refine z_if_eq C 2153 dL_law_2148 (by decide) (fun _ => ?_) (fun q => absurd (by decide) q)
  refine z_goto (tgt := 2685) C dL_law_2153 (by decide) ?_
  refine z_lv [2, 3, 4, 5, 6] rfl ?_
  exact K (vp_updL fo 0 (((nI (sumL (fun i => upN σ (5 + 6 * b + 4) 0 (5 + 6 * i + 4)) (upN σ (5 + 6 * b + 4) 0 1)))).toInt64)) (u1.2) f g1 g2 gp (upS gh nx u1.1) (fwN nx) (mnN ct) f1 f2 no ot eo v tx ip (upN (upN w 5 (rmN (w 5))) 1 0) (upN σ (5 + 6 * b + 4) 0) aw (rmH h (w 5) σ) s2 cells slots (by omega) (by omega) (H.push (by omega) (by omega) hu1.1 hu1.2 ((hv.clr (by omega) (by decide)).mono (by omega) (by omega)) (by rw [upN_n (by omega)]; exact ht0))
set_option maxRecDepth 100000 in
set_option maxHeartbeats 8000000 in
theorem lc_43_no (C : zC p s m args c cL_law 9 wsL_law RL D (zTy κ) A) (hXc : aX adK adV A s s.heap) (hls : l.stackTraces = false) (hX : va_X sc L xs s s.heap) (hb0 : sc < s.heap.size) (hA0 : ¬ A sc) (hhf : ∀ j, j < 10 → hf j = some (Hs j 0)) (hi6 : i + 6 ≤ L) (hL : L ≤ 3072) (hcr : cells + 1 ≤ 601024 ∧ slots + 6 ≤ 7293034) (H : LI M g g1 g2 gh nx ct f1 f2 no v tx ip w σ h s2) (hM1 : 700000 ≤ M) (hM : M ≤ 1400000) (K : LGO p l e s m args below meth c D A Q sc κ ra la lb oa Ad AA Hs hf 2685 (M + 1200) i (cells + 1) (slots + 6)) (x : Int32) (hx : isB (σ 1) x = false) (hx19 : xs (i + 1) = x) : zW p l e RML s m args below meth c 9 D A cells slots Q (LAWW κ ra la lb oa Ad AA Hs hf fo g f g1 g2 gp gh nx ct f1 f2 no ot eo v tx ip w σ aw h s2) [(0, .ref (sc)), (1, .ref (ra)), (2, .ref (Ad 0)), (3, .ref (oa)), (4, .int (nI i))] 2100 [] := by
  obtain ⟨hr, hv, ht0⟩ := id H.1
  obtain ⟨hnx, hct, h5, -⟩ := id H.2.1
  obtain ⟨q1, q2, h7, -, -⟩ := id H.2.2.1
  obtain ⟨v1, hw9, v2, ht⟩ := id H.2.2.2.1
  obtain ⟨hno, hn64⟩ := id H.2.2.2.2
  have n1 := hv.n1
  have n2 := hv.n2
  refine z_aload_n C dL_law_2100 1 rfl ?_
  refine z_aload_n C dL_law_2101 0 rfl ?_
  refine z_iload C dL_law_2102 4 rfl ?_
  refine z_iconst (v := nI 1) C dL_law_2104 (by decide) ?_
  refine zn_iadd C dL_law_2105 ?_
  refine z_sld C hX hb0 hA0 (i := i + 1) (by omega) (by omega) hx19 dL_law_2106 ?_
  refine z_aload_n C dL_law_2107 3 rfl ?_
  refine zh_callS C (aX_ok adK adV) hXc (mL_setDanger_no l D κ adK adV (AA 0) g ra (AA 1 0) (AA 2 0) la lb (AA 6 0) (AA 5 0) σ M x hls hr hv hx oa fo) gL_law_L_setDanger rfl rfl rfl hdL_setDanger ⟨(Nat.le_of_ble_eq_true rfl), (Nat.le_of_ble_eq_true rfl)⟩ _ (fun u1 => OUTW κ oa fo ++ (MW κ Ad eo ip w σ aw (hiF h) (hiF s2) ot ++ (SW κ (AA 0) g ++ (RC ra (AA 0 0) (AA 1 0) (AA 2 0) la lb (AA 6 0) (AA 5 0) ++ (SW κ (AA 1) f ++ (HO κ (AA 2) hf nx ct ++ (hW κ Hs gh 10 ++ (SW κ (AA 3) g1 ++ (SO la (AA 3 0) f1 ++ (SW κ (AA 4) g2 ++ (SO lb (AA 4 0) f2 ++ (OW κ (AA 5) no ot ++ (SW κ (AA 7) gp ++ PW κ (AA 6) (AA 7) eo v tx))))))))))))) pmH_S (fun u1 => pmH_S.symm) rfl (Nat.le_of_ble_eq_true rfl) dL_law_2108 ⟨by show _ ≤ 601024; omega, by show _ ≤ 7293034; omega⟩ (fun u1 hu1 => ?_)
  refine z_istore C [(5, .int (nI 1)), (0, .ref (sc)), (1, .ref (ra)), (2, .ref (Ad 0)), (3, .ref (oa)), (4, .int (nI i))] dL_law_2111 (by decide) rfl ?_
  refine z_aload_n C dL_law_2113 3 rfl ?_
  refine z_aload_n C dL_law_2114 1 rfl ?_
  refine z_iload C dL_law_2115 5 rfl ?_
  refine z_iconst (v := nI 1) C dL_law_2117 (by decide) ?_
  refine zn_iadd C dL_law_2118 ?_
  refine z_sld C hX hb0 hA0 (i := i + 1) (by omega) (by omega) hx19 dL_law_2119 ?_
  refine z_callV C (mX6_setDanger_no l D κ Ad eo ip w σ aw (hiF h) (hiF s2) ot M x hv.1 hx) gL_law_X6_setDanger rfl rfl rfl hdX6_setDanger ⟨(Nat.le_of_ble_eq_true rfl), (Nat.le_of_ble_eq_true rfl)⟩ 0 rfl rfl _ (fun u2 => OUTW κ oa fo ++ (MW κ Ad eo ip (upN w 1 1) σ aw (hiF h) (hiF s2) ot ++ (SW κ (AA 0) g ++ (RC ra (AA 0 0) (AA 1 0) (AA 2 0) la lb (AA 6 0) (AA 5 0) ++ (SW κ (AA 1) f ++ (HO κ (AA 2) hf nx ct ++ (hW κ Hs gh 10 ++ (SW κ (AA 3) g1 ++ (SO la (AA 3 0) f1 ++ (SW κ (AA 4) g2 ++ (SO lb (AA 4 0) f2 ++ (OW κ (AA 5) no ot ++ (SW κ (AA 7) gp ++ PW κ (AA 6) (AA 7) eo v tx))))))))))))) pmM (fun u2 => pmM.symm) rfl (Nat.le_of_ble_eq_true rfl) dL_law_2120 ⟨by show _ ≤ 601024; omega, by show _ ≤ 7293034; omega⟩ (fun u2 hu2 => ?_)
  refine z_istore C [(6, .int ((nI 0))), (5, .int (nI 1)), (0, .ref (sc)), (1, .ref (ra)), (2, .ref (Ad 0)), (3, .ref (oa)), (4, .int (nI i))] dL_law_2123 (by decide) rfl ?_
  refine z_aload_n C dL_law_2125 4 rfl ?_
  refine z_callV C (mX6_thrown l D κ Ad eo ip (upN w 1 1) σ aw (hiF h) (hiF s2) ot) gL_law_X6_thrown rfl rfl rfl hdX6_thrown ⟨(Nat.le_of_ble_eq_true rfl), (Nat.le_of_ble_eq_true rfl)⟩ 0 rfl rfl _ (fun _ => OUTW κ oa fo ++ (MW κ Ad eo ip (upN w 1 1) σ aw (hiF h) (hiF s2) ot ++ (SW κ (AA 0) g ++ (RC ra (AA 0 0) (AA 1 0) (AA 2 0) la lb (AA 6 0) (AA 5 0) ++ (SW κ (AA 1) f ++ (HO κ (AA 2) hf nx ct ++ (hW κ Hs gh 10 ++ (SW κ (AA 3) g1 ++ (SO la (AA 3 0) f1 ++ (SW κ (AA 4) g2 ++ (SO lb (AA 4 0) f2 ++ (OW κ (AA 5) no ot ++ (SW κ (AA 7) gp ++ PW κ (AA 6) (AA 7) eo v tx))))))))))))) pmM (fun _ => pmM.symm) rfl (Nat.le_of_ble_eq_true rfl) dL_law_2126 ⟨by show _ ≤ 601024; omega, by show _ ≤ 7293034; omega⟩ (fun _ _ => ?_)
  refine z_iload C dL_law_2129 1 rfl ?_
  refine z_icmpE C 2136 rfl dL_law_2131 (by decide) ?_
  refine z_iload C dL_law_2136 1 rfl ?_
  refine z_if_ne C 2153 dL_law_2138 (by decide) (fun _ => ?_) (fun q => absurd q (by decide))
  refine z_goto (tgt := 2685) C dL_law_2153 (by decide) ?_
  refine z_lv [2, 3, 4, 5, 6] rfl ?_
  exact K fo g f g1 g2 gp gh nx ct f1 f2 no ot eo v tx ip (upN w 1 1) σ aw h s2 (cells + 1) (slots + 6) (by omega) (by omega) ((H.mono (by omega) (by omega)).w1 _)
set_option maxRecDepth 100000 in
set_option maxHeartbeats 8000000 in
theorem lc_43_bad (C : zC p s m args c cL_law 9 wsL_law RL D (zTy κ) A) (hXc : aX adK adV A s s.heap) (hls : l.stackTraces = false) (hX : va_X sc L xs s s.heap) (hb0 : sc < s.heap.size) (hA0 : ¬ A sc) (hhf : ∀ j, j < 10 → hf j = some (Hs j 0)) (hi6 : i + 6 ≤ L) (hL : L ≤ 3072) (hcr : cells + 1 ≤ 601024 ∧ slots + 6 ≤ 7293034) (H : LI M g g1 g2 gh nx ct f1 f2 no v tx ip w σ h s2) (hM1 : 700000 ≤ M) (hM : M ≤ 1400000) (K : LGO p l e s m args below meth c D A Q sc κ ra la lb oa Ad AA Hs hf 2685 (M + 1200) i (cells + 1) (slots + 6)) (b : Nat) (hb : b < σ 1) (h0 : σ (5 + 6 * b + 4) = 0) (hx19 : xs (i + 1) = nI b) : zW p l e RML s m args below meth c 9 D A cells slots Q (LAWW κ ra la lb oa Ad AA Hs hf fo g f g1 g2 gp gh nx ct f1 f2 no ot eo v tx ip w σ aw h s2) [(0, .ref (sc)), (1, .ref (ra)), (2, .ref (Ad 0)), (3, .ref (oa)), (4, .int (nI i))] 2100 [] := by
  obtain ⟨hr, hv, ht0⟩ := id H.1
  obtain ⟨hnx, hct, h5, -⟩ := id H.2.1
  obtain ⟨q1, q2, h7, -, -⟩ := id H.2.2.1
  obtain ⟨v1, hw9, v2, ht⟩ := id H.2.2.2.1
  obtain ⟨hno, hn64⟩ := id H.2.2.2.2
  have n1 := hv.n1
  have n2 := hv.n2
  refine z_aload_n C dL_law_2100 1 rfl ?_
  refine z_aload_n C dL_law_2101 0 rfl ?_
  refine z_iload C dL_law_2102 4 rfl ?_
  refine z_iconst (v := nI 1) C dL_law_2104 (by decide) ?_
  refine zn_iadd C dL_law_2105 ?_
  refine z_sld C hX hb0 hA0 (i := i + 1) (by omega) (by omega) hx19 dL_law_2106 ?_
  refine z_aload_n C dL_law_2107 3 rfl ?_
  refine zh_callS C (aX_ok adK adV) hXc (mL_setDanger_bad l D κ adK adV (AA 0) g ra (AA 1 0) (AA 2 0) la lb (AA 6 0) (AA 5 0) σ M b hls hr hv hb h0 oa fo) gL_law_L_setDanger rfl rfl rfl hdL_setDanger ⟨(Nat.le_of_ble_eq_true rfl), (Nat.le_of_ble_eq_true rfl)⟩ _ (fun u1 => OUTW κ oa fo ++ (MW κ Ad eo ip w σ aw (hiF h) (hiF s2) ot ++ (SW κ (AA 0) g ++ (RC ra (AA 0 0) (AA 1 0) (AA 2 0) la lb (AA 6 0) (AA 5 0) ++ (SW κ (AA 1) f ++ (HO κ (AA 2) hf nx ct ++ (hW κ Hs gh 10 ++ (SW κ (AA 3) g1 ++ (SO la (AA 3 0) f1 ++ (SW κ (AA 4) g2 ++ (SO lb (AA 4 0) f2 ++ (OW κ (AA 5) no ot ++ (SW κ (AA 7) gp ++ PW κ (AA 6) (AA 7) eo v tx))))))))))))) pmH_S (fun u1 => pmH_S.symm) rfl (Nat.le_of_ble_eq_true rfl) dL_law_2108 ⟨by show _ ≤ 601024; omega, by show _ ≤ 7293034; omega⟩ (fun u1 hu1 => ?_)
  refine z_istore C [(5, .int (nI 2)), (0, .ref (sc)), (1, .ref (ra)), (2, .ref (Ad 0)), (3, .ref (oa)), (4, .int (nI i))] dL_law_2111 (by decide) rfl ?_
  refine z_aload_n C dL_law_2113 3 rfl ?_
  refine z_aload_n C dL_law_2114 1 rfl ?_
  refine z_iload C dL_law_2115 5 rfl ?_
  refine z_iconst (v := nI 1) C dL_law_2117 (by decide) ?_
  refine zn_iadd C dL_law_2118 ?_
  refine z_sld C hX hb0 hA0 (i := i + 1) (by omega) (by omega) hx19 dL_law_2119 ?_
  refine z_callV C (mX6_setDanger_ob l D κ Ad eo ip w σ aw (hiF h) (hiF s2) ot M b hv.1 (by first | assumption | omega) (by first | assumption | omega)) gL_law_X6_setDanger rfl rfl rfl hdX6_setDanger ⟨(Nat.le_of_ble_eq_true rfl), (Nat.le_of_ble_eq_true rfl)⟩ 0 rfl rfl _ (fun u2 => OUTW κ oa fo ++ (MW κ Ad eo ip (upN w 1 2) σ aw (hiF h) (hiF s2) ot ++ (SW κ (AA 0) g ++ (RC ra (AA 0 0) (AA 1 0) (AA 2 0) la lb (AA 6 0) (AA 5 0) ++ (SW κ (AA 1) f ++ (HO κ (AA 2) hf nx ct ++ (hW κ Hs gh 10 ++ (SW κ (AA 3) g1 ++ (SO la (AA 3 0) f1 ++ (SW κ (AA 4) g2 ++ (SO lb (AA 4 0) f2 ++ (OW κ (AA 5) no ot ++ (SW κ (AA 7) gp ++ PW κ (AA 6) (AA 7) eo v tx))))))))))))) pmM (fun u2 => pmM.symm) rfl (Nat.le_of_ble_eq_true rfl) dL_law_2120 ⟨by show _ ≤ 601024; omega, by show _ ≤ 7293034; omega⟩ (fun u2 hu2 => ?_)
  refine z_istore C [(6, .int ((nI 0))), (5, .int (nI 2)), (0, .ref (sc)), (1, .ref (ra)), (2, .ref (Ad 0)), (3, .ref (oa)), (4, .int (nI i))] dL_law_2123 (by decide) rfl ?_
  refine z_aload_n C dL_law_2125 4 rfl ?_
  refine z_callV C (mX6_thrown l D κ Ad eo ip (upN w 1 2) σ aw (hiF h) (hiF s2) ot) gL_law_X6_thrown rfl rfl rfl hdX6_thrown ⟨(Nat.le_of_ble_eq_true rfl), (Nat.le_of_ble_eq_true rfl)⟩ 0 rfl rfl _ (fun _ => OUTW κ oa fo ++ (MW κ Ad eo ip (upN w 1 2) σ aw (hiF h) (hiF s2) ot ++ (SW κ (AA 0) g ++ (RC ra (AA 0 0) (AA 1 0) (AA 2 0) la lb (AA 6 0) (AA 5 0) ++ (SW κ (AA 1) f ++ (HO κ (AA 2) hf nx ct ++ (hW κ Hs gh 10 ++ (SW κ (AA 3) g1 ++ (SO la (AA 3 0) f1 ++ (SW κ (AA 4) g2 ++ (SO lb (AA 4 0) f2 ++ (OW κ (AA 5) no ot ++ (SW κ (AA 7) gp ++ PW κ (AA 6) (AA 7) eo v tx))))))))))))) pmM (fun _ => pmM.symm) rfl (Nat.le_of_ble_eq_true rfl) dL_law_2126 ⟨by show _ ≤ 601024; omega, by show _ ≤ 7293034; omega⟩ (fun _ _ => ?_)
  refine z_iload C dL_law_2129 1 rfl ?_
  refine z_icmpE C 2136 rfl dL_law_2131 (by decide) ?_
  refine z_iload C dL_law_2136 1 rfl ?_
  refine z_if_ne C 2153 dL_law_2138 (by decide) (fun _ => ?_) (fun q => absurd q (by decide))
  refine z_goto (tgt := 2685) C dL_law_2153 (by decide) ?_
  refine z_lv [2, 3, 4, 5, 6] rfl ?_
  exact K fo g f g1 g2 gp gh nx ct f1 f2 no ot eo v tx ip (upN w 1 2) σ aw h s2 (cells + 1) (slots + 6) (by omega) (by omega) ((H.mono (by omega) (by omega)).w1 _)
set_option maxRecDepth 100000 in
set_option maxHeartbeats 8000000 in
theorem lc_44_ok (C : zC p s m args c cL_law 9 wsL_law RL D (zTy κ) A) (hXc : aX adK adV A s s.heap) (hls : l.stackTraces = false) (hX : va_X sc L xs s s.heap) (hb0 : sc < s.heap.size) (hA0 : ¬ A sc) (hhf : ∀ j, j < 10 → hf j = some (Hs j 0)) (hi6 : i + 6 ≤ L) (hL : L ≤ 3072) (hcr : cells + 1 ≤ 601024 ∧ slots + 6 ≤ 7293034) (H : LI M g g1 g2 gh nx ct f1 f2 no v tx ip w σ h s2) (hM1 : 700000 ≤ M) (hM : M ≤ 1400000) (K : LGO p l e s m args below meth c D A Q sc κ ra la lb oa Ad AA Hs hf 2685 (M + 1200) i (cells + 1) (slots + 6)) (b : Nat) (hb : b < σ 1) (h0 : trAt σ b = 0) (hx19 : xs (i + 1) = nI b) : zW p l e RML s m args below meth c 9 D A cells slots Q (LAWW κ ra la lb oa Ad AA Hs hf fo g f g1 g2 gp gh nx ct f1 f2 no ot eo v tx ip w σ aw h s2) [(0, .ref (sc)), (1, .ref (ra)), (2, .ref (Ad 0)), (3, .ref (oa)), (4, .int (nI i))] 2156 [] := by
  obtain ⟨hr, hv, ht0⟩ := id H.1
  obtain ⟨hnx, hct, h5, -⟩ := id H.2.1
  obtain ⟨q1, q2, h7, -, -⟩ := id H.2.2.1
  obtain ⟨v1, hw9, v2, ht⟩ := id H.2.2.2.1
  obtain ⟨hno, hn64⟩ := id H.2.2.2.2
  have n1 := hv.n1
  have n2 := hv.n2
  refine z_aload_n C dL_law_2156 1 rfl ?_
  refine z_aload_n C dL_law_2157 0 rfl ?_
  refine z_iload C dL_law_2158 4 rfl ?_
  refine z_iconst (v := nI 1) C dL_law_2160 (by decide) ?_
  refine zn_iadd C dL_law_2161 ?_
  refine z_sld C hX hb0 hA0 (i := i + 1) (by omega) (by omega) hx19 dL_law_2162 ?_
  refine z_aload_n C dL_law_2163 3 rfl ?_
  refine zh_callS C (aX_ok adK adV) hXc (mL_repair_ok l D κ (AA 0) (AA 2) Hs hf ra (AA 1 0) la lb (AA 6 0) (AA 5 0) g nx ct gh σ M b hr hv hhf hnx hct hb h0 adK adV oa fo) gL_law_L_repair rfl rfl rfl hdL_repair ⟨(Nat.le_of_ble_eq_true rfl), (Nat.le_of_ble_eq_true rfl)⟩ _ (fun u1 => OUTW κ oa (vp_updL fo 0 (((nI (σ (5 + 6 * b + 1)))).toInt64)) ++ (MW κ Ad eo ip w σ aw (hiF h) (hiF s2) ot ++ (SW κ (AA 0) u1.2 ++ (RC ra (AA 0 0) (AA 1 0) (AA 2 0) la lb (AA 6 0) (AA 5 0) ++ (SW κ (AA 1) f ++ (HO κ (AA 2) hf (fwN nx) (mnN ct) ++ (hW κ Hs (upS gh nx u1.1) 10 ++ (SW κ (AA 3) g1 ++ (SO la (AA 3 0) f1 ++ (SW κ (AA 4) g2 ++ (SO lb (AA 4 0) f2 ++ (OW κ (AA 5) no ot ++ (SW κ (AA 7) gp ++ PW κ (AA 6) (AA 7) eo v tx))))))))))))) pmH_k (fun u1 => pmH_k.symm) rfl (Nat.le_of_ble_eq_true rfl) dL_law_2164 ⟨by show _ ≤ 601024; omega, by show _ ≤ 7293034; omega⟩ (fun u1 hu1 => ?_)
  refine z_istore C [(5, .int (nI 0)), (0, .ref (sc)), (1, .ref (ra)), (2, .ref (Ad 0)), (3, .ref (oa)), (4, .int (nI i))] dL_law_2167 (by decide) rfl ?_
  refine z_aload_n C dL_law_2169 3 rfl ?_
  refine z_aload_n C dL_law_2170 1 rfl ?_
  refine z_iload C dL_law_2171 5 rfl ?_
  refine z_iconst (v := nI 1) C dL_law_2173 (by decide) ?_
  refine zn_iadd C dL_law_2174 ?_
  refine z_sld C hX hb0 hA0 (i := i + 1) (by omega) (by omega) hx19 dL_law_2175 ?_
  refine z_callV C (mX6_repair_ok l D κ Ad eo ip w σ aw (hiF h) (hiF s2) ot M h b hv.1 (by first | assumption | omega) (by first | assumption | omega) (by first | assumption | omega)) gL_law_X6_repair rfl rfl rfl hdX6_repair ⟨(Nat.le_of_ble_eq_true rfl), (Nat.le_of_ble_eq_true rfl)⟩ 0 rfl rfl _ (fun u2 => OUTW κ oa (vp_updL fo 0 (((nI (σ (5 + 6 * b + 1)))).toInt64)) ++ (MW κ Ad eo ip (upN (upN w 5 (rmN (w 5))) 1 0) (upN σ (5 + 6 * b + 1) 0) aw (hiF (rmH h (w 5) σ)) (hiF s2) ot ++ (SW κ (AA 0) u1.2 ++ (RC ra (AA 0 0) (AA 1 0) (AA 2 0) la lb (AA 6 0) (AA 5 0) ++ (SW κ (AA 1) f ++ (HO κ (AA 2) hf (fwN nx) (mnN ct) ++ (hW κ Hs (upS gh nx u1.1) 10 ++ (SW κ (AA 3) g1 ++ (SO la (AA 3 0) f1 ++ (SW κ (AA 4) g2 ++ (SO lb (AA 4 0) f2 ++ (OW κ (AA 5) no ot ++ (SW κ (AA 7) gp ++ PW κ (AA 6) (AA 7) eo v tx))))))))))))) pmM (fun u2 => pmM.symm) rfl (Nat.le_of_ble_eq_true rfl) dL_law_2176 ⟨by show _ ≤ 601024; omega, by show _ ≤ 7293034; omega⟩ (fun u2 hu2 => ?_)
  refine z_istore C [(6, .int ((nI (σ (5 + 6 * b + 1))))), (5, .int (nI 0)), (0, .ref (sc)), (1, .ref (ra)), (2, .ref (Ad 0)), (3, .ref (oa)), (4, .int (nI i))] dL_law_2179 (by decide) rfl ?_
  refine z_aload_n C dL_law_2181 4 rfl ?_
  refine z_callV C (mX6_thrown l D κ Ad eo ip (upN (upN w 5 (rmN (w 5))) 1 0) (upN σ (5 + 6 * b + 1) 0) aw (hiF (rmH h (w 5) σ)) (hiF s2) ot) gL_law_X6_thrown rfl rfl rfl hdX6_thrown ⟨(Nat.le_of_ble_eq_true rfl), (Nat.le_of_ble_eq_true rfl)⟩ 0 rfl rfl _ (fun _ => OUTW κ oa (vp_updL fo 0 (((nI (σ (5 + 6 * b + 1)))).toInt64)) ++ (MW κ Ad eo ip (upN (upN w 5 (rmN (w 5))) 1 0) (upN σ (5 + 6 * b + 1) 0) aw (hiF (rmH h (w 5) σ)) (hiF s2) ot ++ (SW κ (AA 0) u1.2 ++ (RC ra (AA 0 0) (AA 1 0) (AA 2 0) la lb (AA 6 0) (AA 5 0) ++ (SW κ (AA 1) f ++ (HO κ (AA 2) hf (fwN nx) (mnN ct) ++ (hW κ Hs (upS gh nx u1.1) 10 ++ (SW κ (AA 3) g1 ++ (SO la (AA 3 0) f1 ++ (SW κ (AA 4) g2 ++ (SO lb (AA 4 0) f2 ++ (OW κ (AA 5) no ot ++ (SW κ (AA 7) gp ++ PW κ (AA 6) (AA 7) eo v tx))))))))))))) pmM (fun _ => pmM.symm) rfl (Nat.le_of_ble_eq_true rfl) dL_law_2182 ⟨by show _ ≤ 601024; omega, by show _ ≤ 7293034; omega⟩ (fun _ _ => ?_)
  refine z_iload C dL_law_2185 1 rfl ?_
  refine z_icmpE C 2192 rfl dL_law_2187 (by decide) ?_
  refine z_iload C dL_law_2192 1 rfl ?_
  refine z_if_ne C 2209 dL_law_2194 (by decide) (fun q => absurd (by decide) q) (fun _ => ?_)
  refine z_aload_n C dL_law_2197 5 rfl ?_
  refine z_iconst (v := nI 0) C dL_law_2198 (by decide) ?_
  refine z_lald C 0 4 rfl rfl (i := 0) (by decide) (by decide) dL_law_2199 ?_
  refine z_iload C dL_law_2200 0 rfl ?_
  refine z_i2l C dL_law_2202 rfl ?_
  refine z_lcmpE C (updL_0) dL_law_2203 ?_
  refine z_if_eq C 2209 dL_law_2204 (by decide) (fun _ => ?_) (fun q => absurd (by decide) q)
  refine z_goto (tgt := 2685) C dL_law_2209 (by decide) ?_
  refine z_lv [2, 3, 4, 5, 6] rfl ?_
  exact K (vp_updL fo 0 (((nI (σ (5 + 6 * b + 1)))).toInt64)) (u1.2) f g1 g2 gp (upS gh nx u1.1) (fwN nx) (mnN ct) f1 f2 no ot eo v tx ip (upN (upN w 5 (rmN (w 5))) 1 0) (upN σ (5 + 6 * b + 1) 0) aw (rmH h (w 5) σ) s2 cells slots (by omega) (by omega) (H.push (by omega) (by omega) hu1.1 hu1.2 ((hv.dep (by omega) (by decide)).mono (by omega) (by omega)) (by rw [upN_n (by omega)]; exact ht0))
set_option maxRecDepth 100000 in
set_option maxHeartbeats 8000000 in
theorem lc_44_no (C : zC p s m args c cL_law 9 wsL_law RL D (zTy κ) A) (hXc : aX adK adV A s s.heap) (hls : l.stackTraces = false) (hX : va_X sc L xs s s.heap) (hb0 : sc < s.heap.size) (hA0 : ¬ A sc) (hhf : ∀ j, j < 10 → hf j = some (Hs j 0)) (hi6 : i + 6 ≤ L) (hL : L ≤ 3072) (hcr : cells + 1 ≤ 601024 ∧ slots + 6 ≤ 7293034) (H : LI M g g1 g2 gh nx ct f1 f2 no v tx ip w σ h s2) (hM1 : 700000 ≤ M) (hM : M ≤ 1400000) (K : LGO p l e s m args below meth c D A Q sc κ ra la lb oa Ad AA Hs hf 2685 (M + 1200) i (cells + 1) (slots + 6)) (x : Int32) (hx : isB (σ 1) x = false) (hx19 : xs (i + 1) = x) : zW p l e RML s m args below meth c 9 D A cells slots Q (LAWW κ ra la lb oa Ad AA Hs hf fo g f g1 g2 gp gh nx ct f1 f2 no ot eo v tx ip w σ aw h s2) [(0, .ref (sc)), (1, .ref (ra)), (2, .ref (Ad 0)), (3, .ref (oa)), (4, .int (nI i))] 2156 [] := by
  obtain ⟨hr, hv, ht0⟩ := id H.1
  obtain ⟨hnx, hct, h5, -⟩ := id H.2.1
  obtain ⟨q1, q2, h7, -, -⟩ := id H.2.2.1
  obtain ⟨v1, hw9, v2, ht⟩ := id H.2.2.2.1
  obtain ⟨hno, hn64⟩ := id H.2.2.2.2
  have n1 := hv.n1
  have n2 := hv.n2
  refine z_aload_n C dL_law_2156 1 rfl ?_
  refine z_aload_n C dL_law_2157 0 rfl ?_
  refine z_iload C dL_law_2158 4 rfl ?_
  refine z_iconst (v := nI 1) C dL_law_2160 (by decide) ?_
  refine zn_iadd C dL_law_2161 ?_
  refine z_sld C hX hb0 hA0 (i := i + 1) (by omega) (by omega) hx19 dL_law_2162 ?_
  refine z_aload_n C dL_law_2163 3 rfl ?_
  refine zh_callS C (aX_ok adK adV) hXc (mL_repair_no l D κ adK adV (AA 0) g ra (AA 1 0) (AA 2 0) la lb (AA 6 0) (AA 5 0) σ M x hls hr hv hx oa fo) gL_law_L_repair rfl rfl rfl hdL_repair ⟨(Nat.le_of_ble_eq_true rfl), (Nat.le_of_ble_eq_true rfl)⟩ _ (fun u1 => OUTW κ oa fo ++ (MW κ Ad eo ip w σ aw (hiF h) (hiF s2) ot ++ (SW κ (AA 0) g ++ (RC ra (AA 0 0) (AA 1 0) (AA 2 0) la lb (AA 6 0) (AA 5 0) ++ (SW κ (AA 1) f ++ (HO κ (AA 2) hf nx ct ++ (hW κ Hs gh 10 ++ (SW κ (AA 3) g1 ++ (SO la (AA 3 0) f1 ++ (SW κ (AA 4) g2 ++ (SO lb (AA 4 0) f2 ++ (OW κ (AA 5) no ot ++ (SW κ (AA 7) gp ++ PW κ (AA 6) (AA 7) eo v tx))))))))))))) pmH_S (fun u1 => pmH_S.symm) rfl (Nat.le_of_ble_eq_true rfl) dL_law_2164 ⟨by show _ ≤ 601024; omega, by show _ ≤ 7293034; omega⟩ (fun u1 hu1 => ?_)
  refine z_istore C [(5, .int (nI 1)), (0, .ref (sc)), (1, .ref (ra)), (2, .ref (Ad 0)), (3, .ref (oa)), (4, .int (nI i))] dL_law_2167 (by decide) rfl ?_
  refine z_aload_n C dL_law_2169 3 rfl ?_
  refine z_aload_n C dL_law_2170 1 rfl ?_
  refine z_iload C dL_law_2171 5 rfl ?_
  refine z_iconst (v := nI 1) C dL_law_2173 (by decide) ?_
  refine zn_iadd C dL_law_2174 ?_
  refine z_sld C hX hb0 hA0 (i := i + 1) (by omega) (by omega) hx19 dL_law_2175 ?_
  refine z_callV C (mX6_repair_no l D κ Ad eo ip w σ aw (hiF h) (hiF s2) ot M x hv.1 hx) gL_law_X6_repair rfl rfl rfl hdX6_repair ⟨(Nat.le_of_ble_eq_true rfl), (Nat.le_of_ble_eq_true rfl)⟩ 0 rfl rfl _ (fun u2 => OUTW κ oa fo ++ (MW κ Ad eo ip (upN w 1 1) σ aw (hiF h) (hiF s2) ot ++ (SW κ (AA 0) g ++ (RC ra (AA 0 0) (AA 1 0) (AA 2 0) la lb (AA 6 0) (AA 5 0) ++ (SW κ (AA 1) f ++ (HO κ (AA 2) hf nx ct ++ (hW κ Hs gh 10 ++ (SW κ (AA 3) g1 ++ (SO la (AA 3 0) f1 ++ (SW κ (AA 4) g2 ++ (SO lb (AA 4 0) f2 ++ (OW κ (AA 5) no ot ++ (SW κ (AA 7) gp ++ PW κ (AA 6) (AA 7) eo v tx))))))))))))) pmM (fun u2 => pmM.symm) rfl (Nat.le_of_ble_eq_true rfl) dL_law_2176 ⟨by show _ ≤ 601024; omega, by show _ ≤ 7293034; omega⟩ (fun u2 hu2 => ?_)
  refine z_istore C [(6, .int ((nI 0))), (5, .int (nI 1)), (0, .ref (sc)), (1, .ref (ra)), (2, .ref (Ad 0)), (3, .ref (oa)), (4, .int (nI i))] dL_law_2179 (by decide) rfl ?_
  refine z_aload_n C dL_law_2181 4 rfl ?_
  refine z_callV C (mX6_thrown l D κ Ad eo ip (upN w 1 1) σ aw (hiF h) (hiF s2) ot) gL_law_X6_thrown rfl rfl rfl hdX6_thrown ⟨(Nat.le_of_ble_eq_true rfl), (Nat.le_of_ble_eq_true rfl)⟩ 0 rfl rfl _ (fun _ => OUTW κ oa fo ++ (MW κ Ad eo ip (upN w 1 1) σ aw (hiF h) (hiF s2) ot ++ (SW κ (AA 0) g ++ (RC ra (AA 0 0) (AA 1 0) (AA 2 0) la lb (AA 6 0) (AA 5 0) ++ (SW κ (AA 1) f ++ (HO κ (AA 2) hf nx ct ++ (hW κ Hs gh 10 ++ (SW κ (AA 3) g1 ++ (SO la (AA 3 0) f1 ++ (SW κ (AA 4) g2 ++ (SO lb (AA 4 0) f2 ++ (OW κ (AA 5) no ot ++ (SW κ (AA 7) gp ++ PW κ (AA 6) (AA 7) eo v tx))))))))))))) pmM (fun _ => pmM.symm) rfl (Nat.le_of_ble_eq_true rfl) dL_law_2182 ⟨by show _ ≤ 601024; omega, by show _ ≤ 7293034; omega⟩ (fun _ _ => ?_)
  refine z_iload C dL_law_2185 1 rfl ?_
  refine z_icmpE C 2192 rfl dL_law_2187 (by decide) ?_
  refine z_iload C dL_law_2192 1 rfl ?_
  refine z_if_ne C 2209 dL_law_2194 (by decide) (fun _ => ?_) (fun q => absurd q (by decide))
  refine z_goto (tgt := 2685) C dL_law_2209 (by decide) ?_
  refine z_lv [2, 3, 4, 5, 6] rfl ?_
  exact K fo g f g1 g2 gp gh nx ct f1 f2 no ot eo v tx ip (upN w 1 1) σ aw h s2 (cells + 1) (slots + 6) (by omega) (by omega) ((H.mono (by omega) (by omega)).w1 _)
set_option maxRecDepth 100000 in
set_option maxHeartbeats 8000000 in
theorem lc_44_bad (C : zC p s m args c cL_law 9 wsL_law RL D (zTy κ) A) (hXc : aX adK adV A s s.heap) (hls : l.stackTraces = false) (hX : va_X sc L xs s s.heap) (hb0 : sc < s.heap.size) (hA0 : ¬ A sc) (hhf : ∀ j, j < 10 → hf j = some (Hs j 0)) (hi6 : i + 6 ≤ L) (hL : L ≤ 3072) (hcr : cells + 1 ≤ 601024 ∧ slots + 6 ≤ 7293034) (H : LI M g g1 g2 gh nx ct f1 f2 no v tx ip w σ h s2) (hM1 : 700000 ≤ M) (hM : M ≤ 1400000) (K : LGO p l e s m args below meth c D A Q sc κ ra la lb oa Ad AA Hs hf 2685 (M + 1200) i (cells + 1) (slots + 6)) (b : Nat) (hb : b < σ 1) (h0 : trAt σ b ≠ 0) (hx19 : xs (i + 1) = nI b) : zW p l e RML s m args below meth c 9 D A cells slots Q (LAWW κ ra la lb oa Ad AA Hs hf fo g f g1 g2 gp gh nx ct f1 f2 no ot eo v tx ip w σ aw h s2) [(0, .ref (sc)), (1, .ref (ra)), (2, .ref (Ad 0)), (3, .ref (oa)), (4, .int (nI i))] 2156 [] := by
  obtain ⟨hr, hv, ht0⟩ := id H.1
  obtain ⟨hnx, hct, h5, -⟩ := id H.2.1
  obtain ⟨q1, q2, h7, -, -⟩ := id H.2.2.1
  obtain ⟨v1, hw9, v2, ht⟩ := id H.2.2.2.1
  obtain ⟨hno, hn64⟩ := id H.2.2.2.2
  have n1 := hv.n1
  have n2 := hv.n2
  refine z_aload_n C dL_law_2156 1 rfl ?_
  refine z_aload_n C dL_law_2157 0 rfl ?_
  refine z_iload C dL_law_2158 4 rfl ?_
  refine z_iconst (v := nI 1) C dL_law_2160 (by decide) ?_
  refine zn_iadd C dL_law_2161 ?_
  refine z_sld C hX hb0 hA0 (i := i + 1) (by omega) (by omega) hx19 dL_law_2162 ?_
  refine z_aload_n C dL_law_2163 3 rfl ?_
  refine zh_callS C (aX_ok adK adV) hXc (mL_repair_bad l D κ adK adV (AA 0) g ra (AA 1 0) (AA 2 0) la lb (AA 6 0) (AA 5 0) σ M b hls hr hv hb h0 oa fo) gL_law_L_repair rfl rfl rfl hdL_repair ⟨(Nat.le_of_ble_eq_true rfl), (Nat.le_of_ble_eq_true rfl)⟩ _ (fun u1 => OUTW κ oa fo ++ (MW κ Ad eo ip w σ aw (hiF h) (hiF s2) ot ++ (SW κ (AA 0) g ++ (RC ra (AA 0 0) (AA 1 0) (AA 2 0) la lb (AA 6 0) (AA 5 0) ++ (SW κ (AA 1) f ++ (HO κ (AA 2) hf nx ct ++ (hW κ Hs gh 10 ++ (SW κ (AA 3) g1 ++ (SO la (AA 3 0) f1 ++ (SW κ (AA 4) g2 ++ (SO lb (AA 4 0) f2 ++ (OW κ (AA 5) no ot ++ (SW κ (AA 7) gp ++ PW κ (AA 6) (AA 7) eo v tx))))))))))))) pmH_S (fun u1 => pmH_S.symm) rfl (Nat.le_of_ble_eq_true rfl) dL_law_2164 ⟨by show _ ≤ 601024; omega, by show _ ≤ 7293034; omega⟩ (fun u1 hu1 => ?_)
  refine z_istore C [(5, .int (nI 2)), (0, .ref (sc)), (1, .ref (ra)), (2, .ref (Ad 0)), (3, .ref (oa)), (4, .int (nI i))] dL_law_2167 (by decide) rfl ?_
  refine z_aload_n C dL_law_2169 3 rfl ?_
  refine z_aload_n C dL_law_2170 1 rfl ?_
  refine z_iload C dL_law_2171 5 rfl ?_
  refine z_iconst (v := nI 1) C dL_law_2173 (by decide) ?_
  refine zn_iadd C dL_law_2174 ?_
  refine z_sld C hX hb0 hA0 (i := i + 1) (by omega) (by omega) hx19 dL_law_2175 ?_
  refine z_callV C (mX6_repair_ob l D κ Ad eo ip w σ aw (hiF h) (hiF s2) ot M b hv.1 (by first | assumption | omega) (by first | assumption | omega)) gL_law_X6_repair rfl rfl rfl hdX6_repair ⟨(Nat.le_of_ble_eq_true rfl), (Nat.le_of_ble_eq_true rfl)⟩ 0 rfl rfl _ (fun u2 => OUTW κ oa fo ++ (MW κ Ad eo ip (upN w 1 2) σ aw (hiF h) (hiF s2) ot ++ (SW κ (AA 0) g ++ (RC ra (AA 0 0) (AA 1 0) (AA 2 0) la lb (AA 6 0) (AA 5 0) ++ (SW κ (AA 1) f ++ (HO κ (AA 2) hf nx ct ++ (hW κ Hs gh 10 ++ (SW κ (AA 3) g1 ++ (SO la (AA 3 0) f1 ++ (SW κ (AA 4) g2 ++ (SO lb (AA 4 0) f2 ++ (OW κ (AA 5) no ot ++ (SW κ (AA 7) gp ++ PW κ (AA 6) (AA 7) eo v tx))))))))))))) pmM (fun u2 => pmM.symm) rfl (Nat.le_of_ble_eq_true rfl) dL_law_2176 ⟨by show _ ≤ 601024; omega, by show _ ≤ 7293034; omega⟩ (fun u2 hu2 => ?_)
  refine z_istore C [(6, .int ((nI 0))), (5, .int (nI 2)), (0, .ref (sc)), (1, .ref (ra)), (2, .ref (Ad 0)), (3, .ref (oa)), (4, .int (nI i))] dL_law_2179 (by decide) rfl ?_
  refine z_aload_n C dL_law_2181 4 rfl ?_
  refine z_callV C (mX6_thrown l D κ Ad eo ip (upN w 1 2) σ aw (hiF h) (hiF s2) ot) gL_law_X6_thrown rfl rfl rfl hdX6_thrown ⟨(Nat.le_of_ble_eq_true rfl), (Nat.le_of_ble_eq_true rfl)⟩ 0 rfl rfl _ (fun _ => OUTW κ oa fo ++ (MW κ Ad eo ip (upN w 1 2) σ aw (hiF h) (hiF s2) ot ++ (SW κ (AA 0) g ++ (RC ra (AA 0 0) (AA 1 0) (AA 2 0) la lb (AA 6 0) (AA 5 0) ++ (SW κ (AA 1) f ++ (HO κ (AA 2) hf nx ct ++ (hW κ Hs gh 10 ++ (SW κ (AA 3) g1 ++ (SO la (AA 3 0) f1 ++ (SW κ (AA 4) g2 ++ (SO lb (AA 4 0) f2 ++ (OW κ (AA 5) no ot ++ (SW κ (AA 7) gp ++ PW κ (AA 6) (AA 7) eo v tx))))))))))))) pmM (fun _ => pmM.symm) rfl (Nat.le_of_ble_eq_true rfl) dL_law_2182 ⟨by show _ ≤ 601024; omega, by show _ ≤ 7293034; omega⟩ (fun _ _ => ?_)
  refine z_iload C dL_law_2185 1 rfl ?_
  refine z_icmpE C 2192 rfl dL_law_2187 (by decide) ?_
  refine z_iload C dL_law_2192 1 rfl ?_
  refine z_if_ne C 2209 dL_law_2194 (by decide) (fun _ => ?_) (fun q => absurd q (by decide))
  refine z_goto (tgt := 2685) C dL_law_2209 (by decide) ?_
  refine z_lv [2, 3, 4, 5, 6] rfl ?_
  exact K fo g f g1 g2 gp gh nx ct f1 f2 no ot eo v tx ip (upN w 1 2) σ aw h s2 (cells + 1) (slots + 6) (by omega) (by omega) ((H.mono (by omega) (by omega)).w1 _)
end LC
