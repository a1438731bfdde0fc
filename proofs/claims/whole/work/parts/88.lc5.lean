section LC
variable {p : Program} {l : Launch} {e : Env} {s : State} {m : MethodId} {args : Array Value} {below : List Frame} {meth : Method} {c : Code} {D : va_G} {A : Nat → Prop} {cells slots : Nat} {Q : State → Prop} {sc L : Nat} {xs : Nat → Int32} {κ : Nat → ClassId} {adK adV : Nat → Nat} {ra la lb oa : Nat} {Ad : Nat → Nat} {AA : Nat → Nat → Nat} {Hs : Nat → Nat → Nat} {hf : Nat → Option Nat} {fo : Nat → Int64} {g f g1 g2 gp : Nat → Nat → Nat} {gh : Nat → Nat → Nat → Nat} {nx ct f1 f2 no : Nat} {ot : Nat → Nat} {eo : Int32} {v : Nat → Nat} {tx ip : Nat → Int32} {w σ aw : Nat → Nat} {h s2 : Nat → Nat → Nat} {M i : Nat}
set_option maxRecDepth 100000 in
set_option maxHeartbeats 8000000 in
theorem lc_45_ok (C : zC p s m args c cL_law 9 wsL_law RL D (zTy κ) A) (hXc : aX adK adV A s s.heap) (hls : l.stackTraces = false) (hX : va_X sc L xs s s.heap) (hb0 : sc < s.heap.size) (hA0 : ¬ A sc) (hhf : ∀ j, j < 10 → hf j = some (Hs j 0)) (hi6 : i + 6 ≤ L) (hL : L ≤ 3072) (hcr : cells + 1 ≤ 601024 ∧ slots + 6 ≤ 7293034) (H : LI M g g1 g2 gh nx ct f1 f2 no v tx ip w σ h s2) (hM1 : 700000 ≤ M) (hM : M ≤ 1400000) (K : LGO p l e s m args below meth c D A Q sc κ ra la lb oa Ad AA Hs hf 2685 (M + 1200) i (cells + 1) (slots + 6)) (b : Nat) (hb : b < σ 1) (hx19 : xs (i + 1) = nI b) : zW p l e RML s m args below meth c 9 D A cells slots Q (LAWW κ ra la lb oa Ad AA Hs hf fo g f g1 g2 gp gh nx ct f1 f2 no ot eo v tx ip w σ aw h s2) [(0, .ref (sc)), (1, .ref (ra)), (2, .ref (Ad 0)), (3, .ref (oa)), (4, .int (nI i))] 2212 [] := by
  obtain ⟨hr, hv, ht0⟩ := id H.1
  obtain ⟨hnx, hct, h5, -⟩ := id H.2.1
  obtain ⟨q1, q2, h7, -, -⟩ := id H.2.2.1
  obtain ⟨v1, hw9, v2, ht⟩ := id H.2.2.2.1
  obtain ⟨hno, hn64⟩ := id H.2.2.2.2
  have n1 := hv.n1
  have n2 := hv.n2
  refine z_aload_n C dL_law_2212 1 rfl ?_
  refine z_aload_n C dL_law_2213 0 rfl ?_
  refine z_iload C dL_law_2214 4 rfl ?_
  refine z_iconst (v := nI 1) C dL_law_2216 (by decide) ?_
  refine zn_iadd C dL_law_2217 ?_
  refine z_sld C hX hb0 hA0 (i := i + 1) (by omega) (by omega) hx19 dL_law_2218 ?_
  refine z_aload_n C dL_law_2219 3 rfl ?_
  refine zh_callS C (aX_ok adK adV) hXc (mL_removeWagons_ok l D κ (AA 0) (AA 2) Hs hf ra (AA 1 0) la lb (AA 6 0) (AA 5 0) g nx ct gh σ M b hr hv hhf hnx hct hb adK adV oa fo) gL_law_L_removeWagons rfl rfl rfl hdL_removeWagons ⟨(Nat.le_of_ble_eq_true rfl), (Nat.le_of_ble_eq_true rfl)⟩ _ (fun u1 => OUTW κ oa (vp_updL fo 0 (((nI (σ (5 + 6 * b + 5)))).toInt64)) ++ (MW κ Ad eo ip w σ aw (hiF h) (hiF s2) ot ++ (SW κ (AA 0) u1.2 ++ (RC ra (AA 0 0) (AA 1 0) (AA 2 0) la lb (AA 6 0) (AA 5 0) ++ (SW κ (AA 1) f ++ (HO κ (AA 2) hf (fwN nx) (mnN ct) ++ (hW κ Hs (upS gh nx u1.1) 10 ++ (SW κ (AA 3) g1 ++ (SO la (AA 3 0) f1 ++ (SW κ (AA 4) g2 ++ (SO lb (AA 4 0) f2 ++ (OW κ (AA 5) no ot ++ (SW κ (AA 7) gp ++ PW κ (AA 6) (AA 7) eo v tx))))))))))))) pmH_k (fun u1 => pmH_k.symm) rfl (Nat.le_of_ble_eq_true rfl) dL_law_2220 ⟨by show _ ≤ 601024; omega, by show _ ≤ 7293034; omega⟩ (fun u1 hu1 => ?_)
  refine z_istore C [(5, .int (nI 0)), (0, .ref (sc)), (1, .ref (ra)), (2, .ref (Ad 0)), (3, .ref (oa)), (4, .int (nI i))] dL_law_2223 (by decide) rfl ?_
  refine z_aload_n C dL_law_2225 3 rfl ?_
  refine z_aload_n C dL_law_2226 1 rfl ?_
  refine z_iload C dL_law_2227 5 rfl ?_
  refine z_iconst (v := nI 1) C dL_law_2229 (by decide) ?_
  refine zn_iadd C dL_law_2230 ?_
  refine z_sld C hX hb0 hA0 (i := i + 1) (by omega) (by omega) hx19 dL_law_2231 ?_
  refine z_callV C (mX6_removeWagons_ok l D κ Ad eo ip w σ aw (hiF h) (hiF s2) ot M h b hv.1 (by first | assumption | omega) (by first | assumption | omega)) gL_law_X6_removeWagons rfl rfl rfl hdX6_removeWagons ⟨(Nat.le_of_ble_eq_true rfl), (Nat.le_of_ble_eq_true rfl)⟩ 0 rfl rfl _ (fun u2 => OUTW κ oa (vp_updL fo 0 (((nI (σ (5 + 6 * b + 5)))).toInt64)) ++ (MW κ Ad eo ip (upN (upN w 5 (rmN (w 5))) 1 0) (upN (upN σ (5 + 6 * b + 5) 0) 3 (σ 3 + σ (5 + 6 * b + 5))) aw (hiF (rmH h (w 5) σ)) (hiF s2) ot ++ (SW κ (AA 0) u1.2 ++ (RC ra (AA 0 0) (AA 1 0) (AA 2 0) la lb (AA 6 0) (AA 5 0) ++ (SW κ (AA 1) f ++ (HO κ (AA 2) hf (fwN nx) (mnN ct) ++ (hW κ Hs (upS gh nx u1.1) 10 ++ (SW κ (AA 3) g1 ++ (SO la (AA 3 0) f1 ++ (SW κ (AA 4) g2 ++ (SO lb (AA 4 0) f2 ++ (OW κ (AA 5) no ot ++ (SW κ (AA 7) gp ++ PW κ (AA 6) (AA 7) eo v tx))))))))))))) pmM (fun u2 => pmM.symm) rfl (Nat.le_of_ble_eq_true rfl) dL_law_2232 ⟨by show _ ≤ 601024; omega, by show _ ≤ 7293034; omega⟩ (fun u2 hu2 => ?_)
  refine z_istore C [(6, .int ((nI (σ (5 + 6 * b + 5))))), (5, .int (nI 0)), (0, .ref (sc)), (1, .ref (ra)), (2, .ref (Ad 0)), (3, .ref (oa)), (4, .int (nI i))] dL_law_2235 (by decide) rfl ?_
  refine z_aload_n C dL_law_2237 4 rfl ?_
  refine z_callV C (mX6_thrown l D κ Ad eo ip (upN (upN w 5 (rmN (w 5))) 1 0) (upN (upN σ (5 + 6 * b + 5) 0) 3 (σ 3 + σ (5 + 6 * b + 5))) aw (hiF (rmH h (w 5) σ)) (hiF s2) ot) gL_law_X6_thrown rfl rfl rfl hdX6_thrown ⟨(Nat.le_of_ble_eq_true rfl), (Nat.le_of_ble_eq_true rfl)⟩ 0 rfl rfl _ (fun _ => OUTW κ oa (vp_updL fo 0 (((nI (σ (5 + 6 * b + 5)))).toInt64)) ++ (MW κ Ad eo ip (upN (upN w 5 (rmN (w 5))) 1 0) (upN (upN σ (5 + 6 * b + 5) 0) 3 (σ 3 + σ (5 + 6 * b + 5))) aw (hiF (rmH h (w 5) σ)) (hiF s2) ot ++ (SW κ (AA 0) u1.2 ++ (RC ra (AA 0 0) (AA 1 0) (AA 2 0) la lb (AA 6 0) (AA 5 0) ++ (SW κ (AA 1) f ++ (HO κ (AA 2) hf (fwN nx) (mnN ct) ++ (hW κ Hs (upS gh nx u1.1) 10 ++ (SW κ (AA 3) g1 ++ (SO la (AA 3 0) f1 ++ (SW κ (AA 4) g2 ++ (SO lb (AA 4 0) f2 ++ (OW κ (AA 5) no ot ++ (SW κ (AA 7) gp ++ PW κ (AA 6) (AA 7) eo v tx))))))))))))) pmM (fun _ => pmM.symm) rfl (Nat.le_of_ble_eq_true rfl) dL_law_2238 ⟨by show _ ≤ 601024; omega, by show _ ≤ 7293034; omega⟩ (fun _ _ => ?_)
  refine z_iload C dL_law_2241 1 rfl ?_
  refine z_icmpE C 2248 rfl dL_law_2243 (by decide) ?_
  refine z_iload C dL_law_2248 1 rfl ?_
  refine z_if_ne C 2265 dL_law_2250 (by decide) (fun q => absurd (by decide) q) (fun _ => ?_)
  refine z_aload_n C dL_law_2253 5 rfl ?_
  refine z_iconst (v := nI 0) C dL_law_2254 (by decide) ?_
  refine z_lald C 0 4 rfl rfl (i := 0) (by decide) (by decide) dL_law_2255 ?_
  refine z_iload C dL_law_2256 0 rfl ?_
  refine z_i2l C dL_law_2258 rfl ?_
  refine z_lcmpE C (updL_0) dL_law_2259 ?_
  refine z_if_eq C 2265 dL_law_2260 (by decide) (fun _ => ?_) (fun q => absurd (by decide) q)
  refine z_goto (tgt := 2685) C dL_law_2265 (by decide) ?_
  refine z_lv [2, 3, 4, 5, 6] rfl ?_
  exact K (vp_updL fo 0 (((nI (σ (5 + 6 * b + 5)))).toInt64)) (u1.2) f g1 g2 gp (upS gh nx u1.1) (fwN nx) (mnN ct) f1 f2 no ot eo v tx ip (upN (upN w 5 (rmN (w 5))) 1 0) (upN (upN σ (5 + 6 * b + 5) 0) 3 (σ 3 + σ (5 + 6 * b + 5))) aw (rmH h (w 5) σ) s2 cells slots (by omega) (by omega) (H.push (by omega) (by omega) hu1.1 hu1.2 (((hv.lost0 (by omega)).r34 (Or.inl rfl)).mono (by omega) (by omega)) (by rw [upN_n (by omega), upN_n (by omega)]; exact ht0))
set_option maxRecDepth 100000 in
set_option maxHeartbeats 8000000 in
theorem lc_45_no (C : zC p s m args c cL_law 9 wsL_law RL D (zTy κ) A) (hXc : aX adK adV A s s.heap) (hls : l.stackTraces = false) (hX : va_X sc L xs s s.heap) (hb0 : sc < s.heap.size) (hA0 : ¬ A sc) (hhf : ∀ j, j < 10 → hf j = some (Hs j 0)) (hi6 : i + 6 ≤ L) (hL : L ≤ 3072) (hcr : cells + 1 ≤ 601024 ∧ slots + 6 ≤ 7293034) (H : LI M g g1 g2 gh nx ct f1 f2 no v tx ip w σ h s2) (hM1 : 700000 ≤ M) (hM : M ≤ 1400000) (K : LGO p l e s m args below meth c D A Q sc κ ra la lb oa Ad AA Hs hf 2685 (M + 1200) i (cells + 1) (slots + 6)) (x : Int32) (hx : isB (σ 1) x = false) (hx19 : xs (i + 1) = x) : zW p l e RML s m args below meth c 9 D A cells slots Q (LAWW κ ra la lb oa Ad AA Hs hf fo g f g1 g2 gp gh nx ct f1 f2 no ot eo v tx ip w σ aw h s2) [(0, .ref (sc)), (1, .ref (ra)), (2, .ref (Ad 0)), (3, .ref (oa)), (4, .int (nI i))] 2212 [] := by
  obtain ⟨hr, hv, ht0⟩ := id H.1
  obtain ⟨hnx, hct, h5, -⟩ := id H.2.1
  obtain ⟨q1, q2, h7, -, -⟩ := id H.2.2.1
  obtain ⟨v1, hw9, v2, ht⟩ := id H.2.2.2.1
  obtain ⟨hno, hn64⟩ := id H.2.2.2.2
  have n1 := hv.n1
  have n2 := hv.n2
  refine z_aload_n C dL_law_2212 1 rfl ?_
  refine z_aload_n C dL_law_2213 0 rfl ?_
  refine z_iload C dL_law_2214 4 rfl ?_
  refine z_iconst (v := nI 1) C dL_law_2216 (by decide) ?_
  refine zn_iadd C dL_law_2217 ?_
  refine z_sld C hX hb0 hA0 (i := i + 1) (by omega) (by omega) hx19 dL_law_2218 ?_
  refine z_aload_n C dL_law_2219 3 rfl ?_
  refine zh_callS C (aX_ok adK adV) hXc (mL_removeWagons_no l D κ adK adV (AA 0) g ra (AA 1 0) (AA 2 0) la lb (AA 6 0) (AA 5 0) σ M x hls hr hv hx oa fo) gL_law_L_removeWagons rfl rfl rfl hdL_removeWagons ⟨(Nat.le_of_ble_eq_true rfl), (Nat.le_of_ble_eq_true rfl)⟩ _ (fun u1 => OUTW κ oa fo ++ (MW κ Ad eo ip w σ aw (hiF h) (hiF s2) ot ++ (SW κ (AA 0) g ++ (RC ra (AA 0 0) (AA 1 0) (AA 2 0) la lb (AA 6 0) (AA 5 0) ++ (SW κ (AA 1) f ++ (HO κ (AA 2) hf nx ct ++ (hW κ Hs gh 10 ++ (SW κ (AA 3) g1 ++ (SO la (AA 3 0) f1 ++ (SW κ (AA 4) g2 ++ (SO lb (AA 4 0) f2 ++ (OW κ (AA 5) no ot ++ (SW κ (AA 7) gp ++ PW κ (AA 6) (AA 7) eo v tx))))))))))))) pmH_S (fun u1 => pmH_S.symm) rfl (Nat.le_of_ble_eq_true rfl) dL_law_2220 ⟨by show _ ≤ 601024; omega, by show _ ≤ 7293034; omega⟩ (fun u1 hu1 => ?_)
  refine z_istore C [(5, .int (nI 1)), (0, .ref (sc)), (1, .ref (ra)), (2, .ref (Ad 0)), (3, .ref (oa)), (4, .int (nI i))] dL_law_2223 (by decide) rfl ?_
  refine z_aload_n C dL_law_2225 3 rfl ?_
  refine z_aload_n C dL_law_2226 1 rfl ?_
  refine z_iload C dL_law_2227 5 rfl ?_
  refine z_iconst (v := nI 1) C dL_law_2229 (by decide) ?_
  refine zn_iadd C dL_law_2230 ?_
  refine z_sld C hX hb0 hA0 (i := i + 1) (by omega) (by omega) hx19 dL_law_2231 ?_
  refine z_callV C (mX6_removeWagons_no l D κ Ad eo ip w σ aw (hiF h) (hiF s2) ot M x hv.1 hx) gL_law_X6_removeWagons rfl rfl rfl hdX6_removeWagons ⟨(Nat.le_of_ble_eq_true rfl), (Nat.le_of_ble_eq_true rfl)⟩ 0 rfl rfl _ (fun u2 => OUTW κ oa fo ++ (MW κ Ad eo ip (upN w 1 1) σ aw (hiF h) (hiF s2) ot ++ (SW κ (AA 0) g ++ (RC ra (AA 0 0) (AA 1 0) (AA 2 0) la lb (AA 6 0) (AA 5 0) ++ (SW κ (AA 1) f ++ (HO κ (AA 2) hf nx ct ++ (hW κ Hs gh 10 ++ (SW κ (AA 3) g1 ++ (SO la (AA 3 0) f1 ++ (SW κ (AA 4) g2 ++ (SO lb (AA 4 0) f2 ++ (OW κ (AA 5) no ot ++ (SW κ (AA 7) gp ++ PW κ (AA 6) (AA 7) eo v tx))))))))))))) pmM (fun u2 => pmM.symm) rfl (Nat.le_of_ble_eq_true rfl) dL_law_2232 ⟨by show _ ≤ 601024; omega, by show _ ≤ 7293034; omega⟩ (fun u2 hu2 => ?_)
  refine z_istore C [(6, .int ((nI 0))), (5, .int (nI 1)), (0, .ref (sc)), (1, .ref (ra)), (2, .ref (Ad 0)), (3, .ref (oa)), (4, .int (nI i))] dL_law_2235 (by decide) rfl ?_
  refine z_aload_n C dL_law_2237 4 rfl ?_
  refine z_callV C (mX6_thrown l D κ Ad eo ip (upN w 1 1) σ aw (hiF h) (hiF s2) ot) gL_law_X6_thrown rfl rfl rfl hdX6_thrown ⟨(Nat.le_of_ble_eq_true rfl), (Nat.le_of_ble_eq_true rfl)⟩ 0 rfl rfl _ (fun _ => OUTW κ oa fo ++ (MW κ Ad eo ip (upN w 1 1) σ aw (hiF h) (hiF s2) ot ++ (SW κ (AA 0) g ++ (RC ra (AA 0 0) (AA 1 0) (AA 2 0) la lb (AA 6 0) (AA 5 0) ++ (SW κ (AA 1) f ++ (HO κ (AA 2) hf nx ct ++ (hW κ Hs gh 10 ++ (SW κ (AA 3) g1 ++ (SO la (AA 3 0) f1 ++ (SW κ (AA 4) g2 ++ (SO lb (AA 4 0) f2 ++ (OW κ (AA 5) no ot ++ (SW κ (AA 7) gp ++ PW κ (AA 6) (AA 7) eo v tx))))))))))))) pmM (fun _ => pmM.symm) rfl (Nat.le_of_ble_eq_true rfl) dL_law_2238 ⟨by show _ ≤ 601024; omega, by show _ ≤ 7293034; omega⟩ (fun _ _ => ?_)
  refine z_iload C dL_law_2241 1 rfl ?_
  refine z_icmpE C 2248 rfl dL_law_2243 (by decide) ?_
  refine z_iload C dL_law_2248 1 rfl ?_
  refine z_if_ne C 2265 dL_law_2250 (by decide) (fun _ => ?_) (fun q => absurd q (by decide))
  refine z_goto (tgt := 2685) C dL_law_2265 (by decide) ?_
  refine z_lv [2, 3, 4, 5, 6] rfl ?_
  exact K fo g f g1 g2 gp gh nx ct f1 f2 no ot eo v tx ip (upN w 1 1) σ aw h s2 (cells + 1) (slots + 6) (by omega) (by omega) ((H.mono (by omega) (by omega)).w1 _)
set_option maxRecDepth 100000 in
set_option maxHeartbeats 8000000 in
theorem lc_46_ok (C : zC p s m args c cL_law 9 wsL_law RL D (zTy κ) A) (hXc : aX adK adV A s s.heap) (hls : l.stackTraces = false) (hX : va_X sc L xs s s.heap) (hb0 : sc < s.heap.size) (hA0 : ¬ A sc) (hhf : ∀ j, j < 10 → hf j = some (Hs j 0)) (hi6 : i + 6 ≤ L) (hL : L ≤ 3072) (hcr : cells + 1 ≤ 601024 ∧ slots + 6 ≤ 7293034) (H : LI M g g1 g2 gh nx ct f1 f2 no v tx ip w σ h s2) (hM1 : 700000 ≤ M) (hM : M ≤ 1400000) (K : LGO p l e s m args below meth c D A Q sc κ ra la lb oa Ad AA Hs hf 2685 (M + 1200) i (cells + 1) (slots + 6)) (b : Nat) (n : Nat) (hb : b < σ 2) (h1n : 1 ≤ n) (h2n : n ≤ 11) (hl : σ (65 + 5 * b + 0) + n ≤ 12) (hx19 : xs (i + 1) = nI b) (hx29 : xs (i + 2) = nI n) : zW p l e RML s m args below meth c 9 D A cells slots Q (LAWW κ ra la lb oa Ad AA Hs hf fo g f g1 g2 gp gh nx ct f1 f2 no ot eo v tx ip w σ aw h s2) [(0, .ref (sc)), (1, .ref (ra)), (2, .ref (Ad 0)), (3, .ref (oa)), (4, .int (nI i))] 2268 [] := by
  obtain ⟨hr, hv, ht0⟩ := id H.1
  obtain ⟨hnx, hct, h5, -⟩ := id H.2.1
  obtain ⟨q1, q2, h7, -, -⟩ := id H.2.2.1
  obtain ⟨v1, hw9, v2, ht⟩ := id H.2.2.2.1
  obtain ⟨hno, hn64⟩ := id H.2.2.2.2
  have n1 := hv.n1
  have n2 := hv.n2
  refine z_aload_n C dL_law_2268 1 rfl ?_
  refine z_aload_n C dL_law_2269 0 rfl ?_
  refine z_iload C dL_law_2270 4 rfl ?_
  refine z_iconst (v := nI 1) C dL_law_2272 (by decide) ?_
  refine zn_iadd C dL_law_2273 ?_
  refine z_sld C hX hb0 hA0 (i := i + 1) (by omega) (by omega) hx19 dL_law_2274 ?_
  refine z_aload_n C dL_law_2275 0 rfl ?_
  refine z_iload C dL_law_2276 4 rfl ?_
  refine z_iconst (v := nI 2) C dL_law_2278 (by decide) ?_
  refine zn_iadd C dL_law_2279 ?_
  refine z_sld C hX hb0 hA0 (i := i + 2) (by omega) (by omega) hx29 dL_law_2280 ?_
  refine z_aload_n C dL_law_2281 3 rfl ?_
  refine zh_callS C (aX_ok adK adV) hXc (mL_addWagons_ok l D κ (AA 0) (AA 2) Hs hf ra (AA 1 0) la lb (AA 6 0) (AA 5 0) g nx ct gh σ M b n hr hv hhf hnx hct hb h1n h2n hl adK adV oa fo) gL_law_L_addWagons rfl rfl rfl hdL_addWagons ⟨(Nat.le_of_ble_eq_true rfl), (Nat.le_of_ble_eq_true rfl)⟩ _ (fun u1 => OUTW κ oa (vp_updL fo 0 (((nI (σ (65 + 5 * b + 0) + n))).toInt64)) ++ (MW κ Ad eo ip w σ aw (hiF h) (hiF s2) ot ++ (SW κ (AA 0) u1.2 ++ (RC ra (AA 0 0) (AA 1 0) (AA 2 0) la lb (AA 6 0) (AA 5 0) ++ (SW κ (AA 1) f ++ (HO κ (AA 2) hf (fwN nx) (mnN ct) ++ (hW κ Hs (upS gh nx u1.1) 10 ++ (SW κ (AA 3) g1 ++ (SO la (AA 3 0) f1 ++ (SW κ (AA 4) g2 ++ (SO lb (AA 4 0) f2 ++ (OW κ (AA 5) no ot ++ (SW κ (AA 7) gp ++ PW κ (AA 6) (AA 7) eo v tx))))))))))))) pmH_k (fun u1 => pmH_k.symm) rfl (Nat.le_of_ble_eq_true rfl) dL_law_2282 ⟨by show _ ≤ 601024; omega, by show _ ≤ 7293034; omega⟩ (fun u1 hu1 => ?_)
  refine z_istore C [(5, .int (nI 0)), (0, .ref (sc)), (1, .ref (ra)), (2, .ref (Ad 0)), (3, .ref (oa)), (4, .int (nI i))] dL_law_2285 (by decide) rfl ?_
  refine z_aload_n C dL_law_2287 3 rfl ?_
  refine z_aload_n C dL_law_2288 1 rfl ?_
  refine z_iload C dL_law_2289 5 rfl ?_
  refine z_iconst (v := nI 1) C dL_law_2291 (by decide) ?_
  refine zn_iadd C dL_law_2292 ?_
  refine z_sld C hX hb0 hA0 (i := i + 1) (by omega) (by omega) hx19 dL_law_2293 ?_
  refine z_aload_n C dL_law_2294 1 rfl ?_
  refine z_iload C dL_law_2295 5 rfl ?_
  refine z_iconst (v := nI 2) C dL_law_2297 (by decide) ?_
  refine zn_iadd C dL_law_2298 ?_
  refine z_sld C hX hb0 hA0 (i := i + 2) (by omega) (by omega) hx29 dL_law_2299 ?_
  refine z_callV C (mX6_addWagons_ok l D κ Ad eo ip w σ aw (hiF h) (hiF s2) ot M h b n hv.1 (by first | assumption | omega) (by first | assumption | omega) (by first | assumption | omega) (by first | assumption | omega) (by first | assumption | omega)) gL_law_X6_addWagons rfl rfl rfl hdX6_addWagons ⟨(Nat.le_of_ble_eq_true rfl), (Nat.le_of_ble_eq_true rfl)⟩ 0 rfl rfl _ (fun u2 => OUTW κ oa (vp_updL fo 0 (((nI (σ (65 + 5 * b + 0) + n))).toInt64)) ++ (MW κ Ad eo ip (upN (upN w 5 (rmN (w 5))) 1 0) (upN (upN σ (65 + 5 * b + 0) (σ (65 + 5 * b + 0) + n)) 4 (σ 4 + n)) aw (hiF (rmH h (w 5) σ)) (hiF s2) ot ++ (SW κ (AA 0) u1.2 ++ (RC ra (AA 0 0) (AA 1 0) (AA 2 0) la lb (AA 6 0) (AA 5 0) ++ (SW κ (AA 1) f ++ (HO κ (AA 2) hf (fwN nx) (mnN ct) ++ (hW κ Hs (upS gh nx u1.1) 10 ++ (SW κ (AA 3) g1 ++ (SO la (AA 3 0) f1 ++ (SW κ (AA 4) g2 ++ (SO lb (AA 4 0) f2 ++ (OW κ (AA 5) no ot ++ (SW κ (AA 7) gp ++ PW κ (AA 6) (AA 7) eo v tx))))))))))))) pmM (fun u2 => pmM.symm) rfl (Nat.le_of_ble_eq_true rfl) dL_law_2300 ⟨by show _ ≤ 601024; omega, by show _ ≤ 7293034; omega⟩ (fun u2 hu2 => ?_)
  refine z_istore C [(6, .int ((nI (σ (65 + 5 * b + 0) + n)))), (5, .int (nI 0)), (0, .ref (sc)), (1, .ref (ra)), (2, .ref (Ad 0)), (3, .ref (oa)), (4, .int (nI i))] dL_law_2303 (by decide) rfl ?_
  refine z_aload_n C dL_law_2305 4 rfl ?_
  refine z_callV C (mX6_thrown l D κ Ad eo ip (upN (upN w 5 (rmN (w 5))) 1 0) (upN (upN σ (65 + 5 * b + 0) (σ (65 + 5 * b + 0) + n)) 4 (σ 4 + n)) aw (hiF (rmH h (w 5) σ)) (hiF s2) ot) gL_law_X6_thrown rfl rfl rfl hdX6_thrown ⟨(Nat.le_of_ble_eq_true rfl), (Nat.le_of_ble_eq_true rfl)⟩ 0 rfl rfl _ (fun _ => OUTW κ oa (vp_updL fo 0 (((nI (σ (65 + 5 * b + 0) + n))).toInt64)) ++ (MW κ Ad eo ip (upN (upN w 5 (rmN (w 5))) 1 0) (upN (upN σ (65 + 5 * b + 0) (σ (65 + 5 * b + 0) + n)) 4 (σ 4 + n)) aw (hiF (rmH h (w 5) σ)) (hiF s2) ot ++ (SW κ (AA 0) u1.2 ++ (RC ra (AA 0 0) (AA 1 0) (AA 2 0) la lb (AA 6 0) (AA 5 0) ++ (SW κ (AA 1) f ++ (HO κ (AA 2) hf (fwN nx) (mnN ct) ++ (hW κ Hs (upS gh nx u1.1) 10 ++ (SW κ (AA 3) g1 ++ (SO la (AA 3 0) f1 ++ (SW κ (AA 4) g2 ++ (SO lb (AA 4 0) f2 ++ (OW κ (AA 5) no ot ++ (SW κ (AA 7) gp ++ PW κ (AA 6) (AA 7) eo v tx))))))))))))) pmM (fun _ => pmM.symm) rfl (Nat.le_of_ble_eq_true rfl) dL_law_2306 ⟨by show _ ≤ 601024; omega, by show _ ≤ 7293034; omega⟩ (fun _ _ => ?_)
  refine z_iload C dL_law_2309 1 rfl ?_
  refine z_icmpE C 2316 rfl dL_law_2311 (by decide) ?_
  refine z_iload C dL_law_2316 1 rfl ?_
  refine z_if_ne C 2333 dL_law_2318 (by decide) (fun q => absurd (by decide) q) (fun _ => ?_)
  refine z_aload_n C dL_law_2321 5 rfl ?_
  refine z_iconst (v := nI 0) C dL_law_2322 (by decide) ?_
  refine z_lald C 0 4 rfl rfl (i := 0) (by decide) (by decide) dL_law_2323 ?_
  refine z_iload C dL_law_2324 0 rfl ?_
  refine z_i2l C dL_law_2326 rfl ?_
  refine z_lcmpE C (updL_0) dL_law_2327 ?_
  refine z_if_eq C 2333 dL_law_2328 (by decide) (fun _ => ?_) (fun q => absurd (by decide) q)
  refine z_goto (tgt := 2685) C dL_law_2333 (by decide) ?_
  refine z_lv [2, 3, 4, 5, 6] rfl ?_
  exact K (vp_updL fo 0 (((nI (σ (65 + 5 * b + 0) + n))).toInt64)) (u1.2) f g1 g2 gp (upS gh nx u1.1) (fwN nx) (mnN ct) f1 f2 no ot eo v tx ip (upN (upN w 5 (rmN (w 5))) 1 0) (upN (upN σ (65 + 5 * b + 0) (σ (65 + 5 * b + 0) + n)) 4 (σ 4 + n)) aw (rmH h (w 5) σ) s2 cells slots (by omega) (by omega) (H.push (by omega) (by omega) hu1.1 hu1.2 (((hv.wag (by omega) (by omega) (by omega)).r34 (Or.inr rfl)).mono (by omega) (by omega)) (by rw [upN_n (by omega), upN_n (by omega)]; exact ht0))
set_option maxRecDepth 100000 in
set_option maxHeartbeats 8000000 in
theorem lc_46_no (C : zC p s m args c cL_law 9 wsL_law RL D (zTy κ) A) (hXc : aX adK adV A s s.heap) (hls : l.stackTraces = false) (hX : va_X sc L xs s s.heap) (hb0 : sc < s.heap.size) (hA0 : ¬ A sc) (hhf : ∀ j, j < 10 → hf j = some (Hs j 0)) (hi6 : i + 6 ≤ L) (hL : L ≤ 3072) (hcr : cells + 1 ≤ 601024 ∧ slots + 6 ≤ 7293034) (H : LI M g g1 g2 gh nx ct f1 f2 no v tx ip w σ h s2) (hM1 : 700000 ≤ M) (hM : M ≤ 1400000) (K : LGO p l e s m args below meth c D A Q sc κ ra la lb oa Ad AA Hs hf 2685 (M + 1200) i (cells + 1) (slots + 6)) (x : Int32) (y : Int32) (hx : isB (σ 2) x = false) (hx19 : xs (i + 1) = x) (hx29 : xs (i + 2) = y) : zW p l e RML s m args below meth c 9 D A cells slots Q (LAWW κ ra la lb oa Ad AA Hs hf fo g f g1 g2 gp gh nx ct f1 f2 no ot eo v tx ip w σ aw h s2) [(0, .ref (sc)), (1, .ref (ra)), (2, .ref (Ad 0)), (3, .ref (oa)), (4, .int (nI i))] 2268 [] := by
  obtain ⟨hr, hv, ht0⟩ := id H.1
  obtain ⟨hnx, hct, h5, -⟩ := id H.2.1
  obtain ⟨q1, q2, h7, -, -⟩ := id H.2.2.1
  obtain ⟨v1, hw9, v2, ht⟩ := id H.2.2.2.1
  obtain ⟨hno, hn64⟩ := id H.2.2.2.2
  have n1 := hv.n1
  have n2 := hv.n2
  refine z_aload_n C dL_law_2268 1 rfl ?_
  refine z_aload_n C dL_law_2269 0 rfl ?_
  refine z_iload C dL_law_2270 4 rfl ?_
  refine z_iconst (v := nI 1) C dL_law_2272 (by decide) ?_
  refine zn_iadd C dL_law_2273 ?_
  refine z_sld C hX hb0 hA0 (i := i + 1) (by omega) (by omega) hx19 dL_law_2274 ?_
  refine z_aload_n C dL_law_2275 0 rfl ?_
  refine z_iload C dL_law_2276 4 rfl ?_
  refine z_iconst (v := nI 2) C dL_law_2278 (by decide) ?_
  refine zn_iadd C dL_law_2279 ?_
  refine z_sld C hX hb0 hA0 (i := i + 2) (by omega) (by omega) hx29 dL_law_2280 ?_
  refine z_aload_n C dL_law_2281 3 rfl ?_
  refine zh_callS C (aX_ok adK adV) hXc (mL_addWagons_no l D κ adK adV (AA 0) g ra (AA 1 0) (AA 2 0) la lb (AA 6 0) (AA 5 0) σ M x y hls hr hv hx oa fo) gL_law_L_addWagons rfl rfl rfl hdL_addWagons ⟨(Nat.le_of_ble_eq_true rfl), (Nat.le_of_ble_eq_true rfl)⟩ _ (fun u1 => OUTW κ oa fo ++ (MW κ Ad eo ip w σ aw (hiF h) (hiF s2) ot ++ (SW κ (AA 0) g ++ (RC ra (AA 0 0) (AA 1 0) (AA 2 0) la lb (AA 6 0) (AA 5 0) ++ (SW κ (AA 1) f ++ (HO κ (AA 2) hf nx ct ++ (hW κ Hs gh 10 ++ (SW κ (AA 3) g1 ++ (SO la (AA 3 0) f1 ++ (SW κ (AA 4) g2 ++ (SO lb (AA 4 0) f2 ++ (OW κ (AA 5) no ot ++ (SW κ (AA 7) gp ++ PW κ (AA 6) (AA 7) eo v tx))))))))))))) pmH_S (fun u1 => pmH_S.symm) rfl (Nat.le_of_ble_eq_true rfl) dL_law_2282 ⟨by show _ ≤ 601024; omega, by show _ ≤ 7293034; omega⟩ (fun u1 hu1 => ?_)
  refine z_istore C [(5, .int (nI 1)), (0, .ref (sc)), (1, .ref (ra)), (2, .ref (Ad 0)), (3, .ref (oa)), (4, .int (nI i))] dL_law_2285 (by decide) rfl ?_
  refine z_aload_n C dL_law_2287 3 rfl ?_
  refine z_aload_n C dL_law_2288 1 rfl ?_
  refine z_iload C dL_law_2289 5 rfl ?_
  refine z_iconst (v := nI 1) C dL_law_2291 (by decide) ?_
  refine zn_iadd C dL_law_2292 ?_
  refine z_sld C hX hb0 hA0 (i := i + 1) (by omega) (by omega) hx19 dL_law_2293 ?_
  refine z_aload_n C dL_law_2294 1 rfl ?_
  refine z_iload C dL_law_2295 5 rfl ?_
  refine z_iconst (v := nI 2) C dL_law_2297 (by decide) ?_
  refine zn_iadd C dL_law_2298 ?_
  refine z_sld C hX hb0 hA0 (i := i + 2) (by omega) (by omega) hx29 dL_law_2299 ?_
  refine z_callV C (mX6_addWagons_no l D κ Ad eo ip w σ aw (hiF h) (hiF s2) ot M x y hv.1 hx) gL_law_X6_addWagons rfl rfl rfl hdX6_addWagons ⟨(Nat.le_of_ble_eq_true rfl), (Nat.le_of_ble_eq_true rfl)⟩ 0 rfl rfl _ (fun u2 => OUTW κ oa fo ++ (MW κ Ad eo ip (upN w 1 1) σ aw (hiF h) (hiF s2) ot ++ (SW κ (AA 0) g ++ (RC ra (AA 0 0) (AA 1 0) (AA 2 0) la lb (AA 6 0) (AA 5 0) ++ (SW κ (AA 1) f ++ (HO κ (AA 2) hf nx ct ++ (hW κ Hs gh 10 ++ (SW κ (AA 3) g1 ++ (SO la (AA 3 0) f1 ++ (SW κ (AA 4) g2 ++ (SO lb (AA 4 0) f2 ++ (OW κ (AA 5) no ot ++ (SW κ (AA 7) gp ++ PW κ (AA 6) (AA 7) eo v tx))))))))))))) pmM (fun u2 => pmM.symm) rfl (Nat.le_of_ble_eq_true rfl) dL_law_2300 ⟨by show _ ≤ 601024; omega, by show _ ≤ 7293034; omega⟩ (fun u2 hu2 => ?_)
  refine z_istore C [(6, .int ((nI 0))), (5, .int (nI 1)), (0, .ref (sc)), (1, .ref (ra)), (2, .ref (Ad 0)), (3, .ref (oa)), (4, .int (nI i))] dL_law_2303 (by decide) rfl ?_
  refine z_aload_n C dL_law_2305 4 rfl ?_
  refine z_callV C (mX6_thrown l D κ Ad eo ip (upN w 1 1) σ aw (hiF h) (hiF s2) ot) gL_law_X6_thrown rfl rfl rfl hdX6_thrown ⟨(Nat.le_of_ble_eq_true rfl), (Nat.le_of_ble_eq_true rfl)⟩ 0 rfl rfl _ (fun _ => OUTW κ oa fo ++ (MW κ Ad eo ip (upN w 1 1) σ aw (hiF h) (hiF s2) ot ++ (SW κ (AA 0) g ++ (RC ra (AA 0 0) (AA 1 0) (AA 2 0) la lb (AA 6 0) (AA 5 0) ++ (SW κ (AA 1) f ++ (HO κ (AA 2) hf nx ct ++ (hW κ Hs gh 10 ++ (SW κ (AA 3) g1 ++ (SO la (AA 3 0) f1 ++ (SW κ (AA 4) g2 ++ (SO lb (AA 4 0) f2 ++ (OW κ (AA 5) no ot ++ (SW κ (AA 7) gp ++ PW κ (AA 6) (AA 7) eo v tx))))))))))))) pmM (fun _ => pmM.symm) rfl (Nat.le_of_ble_eq_true rfl) dL_law_2306 ⟨by show _ ≤ 601024; omega, by show _ ≤ 7293034; omega⟩ (fun _ _ => ?_)
  refine z_iload C dL_law_2309 1 rfl ?_
  refine z_icmpE C 2316 rfl dL_law_2311 (by decide) ?_
  refine z_iload C dL_law_2316 1 rfl ?_
  refine z_if_ne C 2333 dL_law_2318 (by decide) (fun _ => ?_) (fun q => absurd q (by decide))
  refine z_goto (tgt := 2685) C dL_law_2333 (by decide) ?_
  refine z_lv [2, 3, 4, 5, 6] rfl ?_
  exact K fo g f g1 g2 gp gh nx ct f1 f2 no ot eo v tx ip (upN w 1 1) σ aw h s2 (cells + 1) (slots + 6) (by omega) (by omega) ((H.mono (by omega) (by omega)).w1 _)
set_option maxRecDepth 100000 in
set_option maxHeartbeats 8000000 in
theorem lc_46_rng (C : zC p s m args c cL_law 9 wsL_law RL D (zTy κ) A) (hXc : aX adK adV A s s.heap) (hls : l.stackTraces = false) (hX : va_X sc L xs s s.heap) (hb0 : sc < s.heap.size) (hA0 : ¬ A sc) (hhf : ∀ j, j < 10 → hf j = some (Hs j 0)) (hi6 : i + 6 ≤ L) (hL : L ≤ 3072) (hcr : cells + 1 ≤ 601024 ∧ slots + 6 ≤ 7293034) (H : LI M g g1 g2 gh nx ct f1 f2 no v tx ip w σ h s2) (hM1 : 700000 ≤ M) (hM : M ≤ 1400000) (K : LGO p l e s m args below meth c D A Q sc κ ra la lb oa Ad AA Hs hf 2685 (M + 1200) i (cells + 1) (slots + 6)) (b : Nat) (x : Int32) (hb : b < σ 2) (hx : inI x (nI 1) (nI 11) = false) (hx19 : xs (i + 1) = nI b) (hx29 : xs (i + 2) = x) : zW p l e RML s m args below meth c 9 D A cells slots Q (LAWW κ ra la lb oa Ad AA Hs hf fo g f g1 g2 gp gh nx ct f1 f2 no ot eo v tx ip w σ aw h s2) [(0, .ref (sc)), (1, .ref (ra)), (2, .ref (Ad 0)), (3, .ref (oa)), (4, .int (nI i))] 2268 [] := by
  obtain ⟨hr, hv, ht0⟩ := id H.1
  obtain ⟨hnx, hct, h5, -⟩ := id H.2.1
  obtain ⟨q1, q2, h7, -, -⟩ := id H.2.2.1
  obtain ⟨v1, hw9, v2, ht⟩ := id H.2.2.2.1
  obtain ⟨hno, hn64⟩ := id H.2.2.2.2
  have n1 := hv.n1
  have n2 := hv.n2
  refine z_aload_n C dL_law_2268 1 rfl ?_
  refine z_aload_n C dL_law_2269 0 rfl ?_
  refine z_iload C dL_law_2270 4 rfl ?_
  refine z_iconst (v := nI 1) C dL_law_2272 (by decide) ?_
  refine zn_iadd C dL_law_2273 ?_
  refine z_sld C hX hb0 hA0 (i := i + 1) (by omega) (by omega) hx19 dL_law_2274 ?_
  refine z_aload_n C dL_law_2275 0 rfl ?_
  refine z_iload C dL_law_2276 4 rfl ?_
  refine z_iconst (v := nI 2) C dL_law_2278 (by decide) ?_
  refine zn_iadd C dL_law_2279 ?_
  refine z_sld C hX hb0 hA0 (i := i + 2) (by omega) (by omega) hx29 dL_law_2280 ?_
  refine z_aload_n C dL_law_2281 3 rfl ?_
  refine zh_callS C (aX_ok adK adV) hXc (mL_addWagons_rng l D κ adK adV (AA 0) g ra (AA 1 0) (AA 2 0) la lb (AA 6 0) (AA 5 0) σ M b x hls hr hv hb hx oa fo) gL_law_L_addWagons rfl rfl rfl hdL_addWagons ⟨(Nat.le_of_ble_eq_true rfl), (Nat.le_of_ble_eq_true rfl)⟩ _ (fun u1 => OUTW κ oa fo ++ (MW κ Ad eo ip w σ aw (hiF h) (hiF s2) ot ++ (SW κ (AA 0) g ++ (RC ra (AA 0 0) (AA 1 0) (AA 2 0) la lb (AA 6 0) (AA 5 0) ++ (SW κ (AA 1) f ++ (HO κ (AA 2) hf nx ct ++ (hW κ Hs gh 10 ++ (SW κ (AA 3) g1 ++ (SO la (AA 3 0) f1 ++ (SW κ (AA 4) g2 ++ (SO lb (AA 4 0) f2 ++ (OW κ (AA 5) no ot ++ (SW κ (AA 7) gp ++ PW κ (AA 6) (AA 7) eo v tx))))))))))))) pmH_S (fun u1 => pmH_S.symm) rfl (Nat.le_of_ble_eq_true rfl) dL_law_2282 ⟨by show _ ≤ 601024; omega, by show _ ≤ 7293034; omega⟩ (fun u1 hu1 => ?_)
  refine z_istore C [(5, .int (nI 2)), (0, .ref (sc)), (1, .ref (ra)), (2, .ref (Ad 0)), (3, .ref (oa)), (4, .int (nI i))] dL_law_2285 (by decide) rfl ?_
  refine z_aload_n C dL_law_2287 3 rfl ?_
  refine z_aload_n C dL_law_2288 1 rfl ?_
  refine z_iload C dL_law_2289 5 rfl ?_
  refine z_iconst (v := nI 1) C dL_law_2291 (by decide) ?_
  refine zn_iadd C dL_law_2292 ?_
  refine z_sld C hX hb0 hA0 (i := i + 1) (by omega) (by omega) hx19 dL_law_2293 ?_
  refine z_aload_n C dL_law_2294 1 rfl ?_
  refine z_iload C dL_law_2295 5 rfl ?_
  refine z_iconst (v := nI 2) C dL_law_2297 (by decide) ?_
  refine zn_iadd C dL_law_2298 ?_
  refine z_sld C hX hb0 hA0 (i := i + 2) (by omega) (by omega) hx29 dL_law_2299 ?_
  refine z_callV C (mX6_addWagons_rng l D κ Ad eo ip w σ aw (hiF h) (hiF s2) ot M b x hv.1 (by first | assumption | omega) hx) gL_law_X6_addWagons rfl rfl rfl hdX6_addWagons ⟨(Nat.le_of_ble_eq_true rfl), (Nat.le_of_ble_eq_true rfl)⟩ 0 rfl rfl _ (fun u2 => OUTW κ oa fo ++ (MW κ Ad eo ip (upN w 1 2) σ aw (hiF h) (hiF s2) ot ++ (SW κ (AA 0) g ++ (RC ra (AA 0 0) (AA 1 0) (AA 2 0) la lb (AA 6 0) (AA 5 0) ++ (SW κ (AA 1) f ++ (HO κ (AA 2) hf nx ct ++ (hW κ Hs gh 10 ++ (SW κ (AA 3) g1 ++ (SO la (AA 3 0) f1 ++ (SW κ (AA 4) g2 ++ (SO lb (AA 4 0) f2 ++ (OW κ (AA 5) no ot ++ (SW κ (AA 7) gp ++ PW κ (AA 6) (AA 7) eo v tx))))))))))))) pmM (fun u2 => pmM.symm) rfl (Nat.le_of_ble_eq_true rfl) dL_law_2300 ⟨by show _ ≤ 601024; omega, by show _ ≤ 7293034; omega⟩ (fun u2 hu2 => ?_)
  refine z_istore C [(6, .int ((nI 0))), (5, .int (nI 2)), (0, .ref (sc)), (1, .ref (ra)), (2, .ref (Ad 0)), (3, .ref (oa)), (4, .int (nI i))] dL_law_2303 (by decide) rfl ?_
  refine z_aload_n C dL_law_2305 4 rfl ?_
  refine z_callV C (mX6_thrown l D κ Ad eo ip (upN w 1 2) σ aw (hiF h) (hiF s2) ot) gL_law_X6_thrown rfl rfl rfl hdX6_thrown ⟨(Nat.le_of_ble_eq_true rfl), (Nat.le_of_ble_eq_true rfl)⟩ 0 rfl rfl _ (fun _ => OUTW κ oa fo ++ (MW κ Ad eo ip (upN w 1 2) σ aw (hiF h) (hiF s2) ot ++ (SW κ (AA 0) g ++ (RC ra (AA 0 0) (AA 1 0) (AA 2 0) la lb (AA 6 0) (AA 5 0) ++ (SW κ (AA 1) f ++ (HO κ (AA 2) hf nx ct ++ (hW κ Hs gh 10 ++ (SW κ (AA 3) g1 ++ (SO la (AA 3 0) f1 ++ (SW κ (AA 4) g2 ++ (SO lb (AA 4 0) f2 ++ (OW κ (AA 5) no ot ++ (SW κ (AA 7) gp ++ PW κ (AA 6) (AA 7) eo v tx))))))))))))) pmM (fun _ => pmM.symm) rfl (Nat.le_of_ble_eq_true rfl) dL_law_2306 ⟨by show _ ≤ 601024; omega, by show _ ≤ 7293034; omega⟩ (fun _ _ => ?_)
  refine z_iload C dL_law_2309 1 rfl ?_
  refine z_icmpE C 2316 rfl dL_law_2311 (by decide) ?_
  refine z_iload C dL_law_2316 1 rfl ?_
  refine z_if_ne C 2333 dL_law_2318 (by decide) (fun _ => ?_) (fun q => absurd q (by decide))
  refine z_goto (tgt := 2685) C dL_law_2333 (by decide) ?_
  refine z_lv [2, 3, 4, 5, 6] rfl ?_
  exact K fo g f g1 g2 gp gh nx ct f1 f2 no ot eo v tx ip (upN w 1 2) σ aw h s2 (cells + 1) (slots + 6) (by omega) (by omega) ((H.mono (by omega) (by omega)).w1 _)
set_option maxRecDepth 100000 in
set_option maxHeartbeats 8000000 in
theorem lc_46_lim (C : zC p s m args c cL_law 9 wsL_law RL D (zTy κ) A) (hXc : aX adK adV A s s.heap) (hls : l.stackTraces = false) (hX : va_X sc L xs s s.heap) (hb0 : sc < s.heap.size) (hA0 : ¬ A sc) (hhf : ∀ j, j < 10 → hf j = some (Hs j 0)) (hi6 : i + 6 ≤ L) (hL : L ≤ 3072) (hcr : cells + 1 ≤ 601024 ∧ slots + 6 ≤ 7293034) (H : LI M g g1 g2 gh nx ct f1 f2 no v tx ip w σ h s2) (hM1 : 700000 ≤ M) (hM : M ≤ 1400000) (K : LGO p l e s m args below meth c D A Q sc κ ra la lb oa Ad AA Hs hf 2685 (M + 1200) i (cells + 1) (slots + 6)) (b : Nat) (n : Nat) (hb : b < σ 2) (h1n : 1 ≤ n) (h2n : n ≤ 11) (hl : 12 < σ (65 + 5 * b + 0) + n) (hx19 : xs (i + 1) = nI b) (hx29 : xs (i + 2) = nI n) : zW p l e RML s m args below meth c 9 D A cells slots Q (LAWW κ ra la lb oa Ad AA Hs hf fo g f g1 g2 gp gh nx ct f1 f2 no ot eo v tx ip w σ aw h s2) [(0, .ref (sc)), (1, .ref (ra)), (2, .ref (Ad 0)), (3, .ref (oa)), (4, .int (nI i))] 2268 [] := by
  obtain ⟨hr, hv, ht0⟩ := id H.1
  obtain ⟨hnx, hct, h5, -⟩ := id H.2.1
  obtain ⟨q1, q2, h7, -, -⟩ := id H.2.2.1
  obtain ⟨v1, hw9, v2, ht⟩ := id H.2.2.2.1
  obtain ⟨hno, hn64⟩ := id H.2.2.2.2
  have n1 := hv.n1
  have n2 := hv.n2
  refine z_aload_n C dL_law_2268 1 rfl ?_
  refine z_aload_n C dL_law_2269 0 rfl ?_
  refine z_iload C dL_law_2270 4 rfl ?_
  refine z_iconst (v := nI 1) C dL_law_2272 (by decide) ?_
  refine zn_iadd C dL_law_2273 ?_
  refine z_sld C hX hb0 hA0 (i := i + 1) (by omega) (by omega) hx19 dL_law_2274 ?_
  refine z_aload_n C dL_law_2275 0 rfl ?_
  refine z_iload C dL_law_2276 4 rfl ?_
  refine z_iconst (v := nI 2) C dL_law_2278 (by decide) ?_
  refine zn_iadd C dL_law_2279 ?_
  refine z_sld C hX hb0 hA0 (i := i + 2) (by omega) (by omega) hx29 dL_law_2280 ?_
  refine z_aload_n C dL_law_2281 3 rfl ?_
  refine zh_callS C (aX_ok adK adV) hXc (mL_addWagons_lim l D κ adK adV (AA 0) g ra (AA 1 0) (AA 2 0) la lb (AA 6 0) (AA 5 0) σ M b n hls hr hv hb h1n h2n hl oa fo) gL_law_L_addWagons rfl rfl rfl hdL_addWagons ⟨(Nat.le_of_ble_eq_true rfl), (Nat.le_of_ble_eq_true rfl)⟩ _ (fun u1 => OUTW κ oa fo ++ (MW κ Ad eo ip w σ aw (hiF h) (hiF s2) ot ++ (SW κ (AA 0) g ++ (RC ra (AA 0 0) (AA 1 0) (AA 2 0) la lb (AA 6 0) (AA 5 0) ++ (SW κ (AA 1) f ++ (HO κ (AA 2) hf nx ct ++ (hW κ Hs gh 10 ++ (SW κ (AA 3) g1 ++ (SO la (AA 3 0) f1 ++ (SW κ (AA 4) g2 ++ (SO lb (AA 4 0) f2 ++ (OW κ (AA 5) no ot ++ (SW κ (AA 7) gp ++ PW κ (AA 6) (AA 7) eo v tx))))))))))))) pmH_S (fun u1 => pmH_S.symm) rfl (Nat.le_of_ble_eq_true rfl) dL_law_2282 ⟨by show _ ≤ 601024; omega, by show _ ≤ 7293034; omega⟩ (fun u1 hu1 => ?_)
  refine z_istore C [(5, .int (nI 3)), (0, .ref (sc)), (1, .ref (ra)), (2, .ref (Ad 0)), (3, .ref (oa)), (4, .int (nI i))] dL_law_2285 (by decide) rfl ?_
  refine z_aload_n C dL_law_2287 3 rfl ?_
  refine z_aload_n C dL_law_2288 1 rfl ?_
  refine z_iload C dL_law_2289 5 rfl ?_
  refine z_iconst (v := nI 1) C dL_law_2291 (by decide) ?_
  refine zn_iadd C dL_law_2292 ?_
  refine z_sld C hX hb0 hA0 (i := i + 1) (by omega) (by omega) hx19 dL_law_2293 ?_
  refine z_aload_n C dL_law_2294 1 rfl ?_
  refine z_iload C dL_law_2295 5 rfl ?_
  refine z_iconst (v := nI 2) C dL_law_2297 (by decide) ?_
  refine zn_iadd C dL_law_2298 ?_
  refine z_sld C hX hb0 hA0 (i := i + 2) (by omega) (by omega) hx29 dL_law_2299 ?_
  refine z_callV C (mX6_addWagons_lim l D κ Ad eo ip w σ aw (hiF h) (hiF s2) ot M b n hv.1 (by first | assumption | omega) (by first | assumption | omega) (by first | assumption | omega) (by first | assumption | omega)) gL_law_X6_addWagons rfl rfl rfl hdX6_addWagons ⟨(Nat.le_of_ble_eq_true rfl), (Nat.le_of_ble_eq_true rfl)⟩ 0 rfl rfl _ (fun u2 => OUTW κ oa fo ++ (MW κ Ad eo ip (upN w 1 3) σ aw (hiF h) (hiF s2) ot ++ (SW κ (AA 0) g ++ (RC ra (AA 0 0) (AA 1 0) (AA 2 0) la lb (AA 6 0) (AA 5 0) ++ (SW κ (AA 1) f ++ (HO κ (AA 2) hf nx ct ++ (hW κ Hs gh 10 ++ (SW κ (AA 3) g1 ++ (SO la (AA 3 0) f1 ++ (SW κ (AA 4) g2 ++ (SO lb (AA 4 0) f2 ++ (OW κ (AA 5) no ot ++ (SW κ (AA 7) gp ++ PW κ (AA 6) (AA 7) eo v tx))))))))))))) pmM (fun u2 => pmM.symm) rfl (Nat.le_of_ble_eq_true rfl) dL_law_2300 ⟨by show _ ≤ 601024; omega, by show _ ≤ 7293034; omega⟩ (fun u2 hu2 => ?_)
  refine z_istore C [(6, .int ((nI 0))), (5, .int (nI 3)), (0, .ref (sc)), (1, .ref (ra)), (2, .ref (Ad 0)), (3, .ref (oa)), (4, .int (nI i))] dL_law_2303 (by decide) rfl ?_
  refine z_aload_n C dL_law_2305 4 rfl ?_
  refine z_callV C (mX6_thrown l D κ Ad eo ip (upN w 1 3) σ aw (hiF h) (hiF s2) ot) gL_law_X6_thrown rfl rfl rfl hdX6_thrown ⟨(Nat.le_of_ble_eq_true rfl), (Nat.le_of_ble_eq_true rfl)⟩ 0 rfl rfl _ (fun _ => OUTW κ oa fo ++ (MW κ Ad eo ip (upN w 1 3) σ aw (hiF h) (hiF s2) ot ++ (SW κ (AA 0) g ++ (RC ra (AA 0 0) (AA 1 0) (AA 2 0) la lb (AA 6 0) (AA 5 0) ++ (SW κ (AA 1) f ++ (HO κ (AA 2) hf nx ct ++ (hW κ Hs gh 10 ++ (SW κ (AA 3) g1 ++ (SO la (AA 3 0) f1 ++ (SW κ (AA 4) g2 ++ (SO lb (AA 4 0) f2 ++ (OW κ (AA 5) no ot ++ (SW κ (AA 7) gp ++ PW κ (AA 6) (AA 7) eo v tx))))))))))))) pmM (fun _ => pmM.symm) rfl (Nat.le_of_ble_eq_true rfl) dL_law_2306 ⟨by show _ ≤ 601024; omega, by show _ ≤ 7293034; omega⟩ (fun _ _ => ?_)
  refine z_iload C dL_law_2309 1 rfl ?_
  refine z_icmpE C 2316 rfl dL_law_2311 (by decide) ?_
  refine z_iload C dL_law_2316 1 rfl ?_
  refine z_if_ne C 2333 dL_law_2318 (by decide) (fun _ => ?_) (fun q => absurd q (by decide))
  refine z_goto (tgt := 2685) C dL_law_2333 (by decide) ?_
  refine z_lv [2, 3, 4, 5, 6] rfl ?_
  exact K fo g f g1 g2 gp gh nx ct f1 f2 no ot eo v tx ip (upN w 1 3) σ aw h s2 (cells + 1) (slots + 6) (by omega) (by omega) ((H.mono (by omega) (by omega)).w1 _)
set_option maxRecDepth 100000 in
set_option maxHeartbeats 8000000 in
theorem lc_47_ok (C : zC p s m args c cL_law 9 wsL_law RL D (zTy κ) A) (hXc : aX adK adV A s s.heap) (hls : l.stackTraces = false) (hX : va_X sc L xs s s.heap) (hb0 : sc < s.heap.size) (hA0 : ¬ A sc) (hhf : ∀ j, j < 10 → hf j = some (Hs j 0)) (hi6 : i + 6 ≤ L) (hL : L ≤ 3072) (hcr : cells + 1 ≤ 601024 ∧ slots + 6 ≤ 7293034) (H : LI M g g1 g2 gh nx ct f1 f2 no v tx ip w σ h s2) (hM1 : 700000 ≤ M) (hM : M ≤ 1400000) (K : LGO p l e s m args below meth c D A Q sc κ ra la lb oa Ad AA Hs hf 2685 (M + 1200) i (cells + 1) (slots + 6)) (b : Nat) (n : Nat) (hb : b < σ 2) (h1n : 1 ≤ n) (h2n : n ≤ 5) (hx19 : xs (i + 1) = nI b) (hx29 : xs (i + 2) = nI n) : zW p l e RML s m args below meth c 9 D A cells slots Q (LAWW κ ra la lb oa Ad AA Hs hf fo g f g1 g2 gp gh nx ct f1 f2 no ot eo v tx ip w σ aw h s2) [(0, .ref (sc)), (1, .ref (ra)), (2, .ref (Ad 0)), (3, .ref (oa)), (4, .int (nI i))] 2336 [] := by
  obtain ⟨hr, hv, ht0⟩ := id H.1
  obtain ⟨hnx, hct, h5, -⟩ := id H.2.1
  obtain ⟨q1, q2, h7, -, -⟩ := id H.2.2.1
  obtain ⟨v1, hw9, v2, ht⟩ := id H.2.2.2.1
  obtain ⟨hno, hn64⟩ := id H.2.2.2.2
  have n1 := hv.n1
  have n2 := hv.n2
  refine z_aload_n C dL_law_2336 1 rfl ?_
  refine z_aload_n C dL_law_2337 0 rfl ?_
  refine z_iload C dL_law_2338 4 rfl ?_
  refine z_iconst (v := nI 1) C dL_law_2340 (by decide) ?_
  refine zn_iadd C dL_law_2341 ?_
  refine z_sld C hX hb0 hA0 (i := i + 1) (by omega) (by omega) hx19 dL_law_2342 ?_
  refine z_aload_n C dL_law_2343 0 rfl ?_
  refine z_iload C dL_law_2344 4 rfl ?_
  refine z_iconst (v := nI 2) C dL_law_2346 (by decide) ?_
  refine zn_iadd C dL_law_2347 ?_
  refine z_sld C hX hb0 hA0 (i := i + 2) (by omega) (by omega) hx29 dL_law_2348 ?_
  refine z_aload_n C dL_law_2349 3 rfl ?_
  refine zh_callS C (aX_ok adK adV) hXc (mL_setTopSpeed_ok l D κ (AA 0) (AA 2) Hs hf ra (AA 1 0) la lb (AA 6 0) (AA 5 0) g nx ct gh σ M b n hr hv hhf hnx hct hb h1n h2n adK adV oa fo) gL_law_L_setTopSpeed rfl rfl rfl hdL_setTopSpeed ⟨(Nat.le_of_ble_eq_true rfl), (Nat.le_of_ble_eq_true rfl)⟩ _ (fun u1 => OUTW κ oa (vp_updL fo 0 (((nI (σ (65 + 5 * b + 1)))).toInt64)) ++ (MW κ Ad eo ip w σ aw (hiF h) (hiF s2) ot ++ (SW κ (AA 0) u1.2 ++ (RC ra (AA 0 0) (AA 1 0) (AA 2 0) la lb (AA 6 0) (AA 5 0) ++ (SW κ (AA 1) f ++ (HO κ (AA 2) hf (fwN nx) (mnN ct) ++ (hW κ Hs (upS gh nx u1.1) 10 ++ (SW κ (AA 3) g1 ++ (SO la (AA 3 0) f1 ++ (SW κ (AA 4) g2 ++ (SO lb (AA 4 0) f2 ++ (OW κ (AA 5) no ot ++ (SW κ (AA 7) gp ++ PW κ (AA 6) (AA 7) eo v tx))))))))))))) pmH_k (fun u1 => pmH_k.symm) rfl (Nat.le_of_ble_eq_true rfl) dL_law_2350 ⟨by show _ ≤ 601024; omega, by show _ ≤ 7293034; omega⟩ (fun u1 hu1 => ?_)
  refine z_istore C [(5, .int (nI 0)), (0, .ref (sc)), (1, .ref (ra)), (2, .ref (Ad 0)), (3, .ref (oa)), (4, .int (nI i))] dL_law_2353 (by decide) rfl ?_
  refine z_aload_n C dL_law_2355 3 rfl ?_
  refine z_aload_n C dL_law_2356 1 rfl ?_
  refine z_iload C dL_law_2357 5 rfl ?_
  refine z_iconst (v := nI 1) C dL_law_2359 (by decide) ?_
  refine zn_iadd C dL_law_2360 ?_
  refine z_sld C hX hb0 hA0 (i := i + 1) (by omega) (by omega) hx19 dL_law_2361 ?_
  refine z_aload_n C dL_law_2362 1 rfl ?_
  refine z_iload C dL_law_2363 5 rfl ?_
  refine z_iconst (v := nI 2) C dL_law_2365 (by decide) ?_
  refine zn_iadd C dL_law_2366 ?_
  refine z_sld C hX hb0 hA0 (i := i + 2) (by omega) (by omega) hx29 dL_law_2367 ?_
  refine z_callV C (mX6_setTopSpeed_ok l D κ Ad eo ip w σ aw (hiF h) (hiF s2) ot M h b n hv.1 (by first | assumption | omega) (by first | assumption | omega) (by first | assumption | omega) (by first | assumption | omega)) gL_law_X6_setTopSpeed rfl rfl rfl hdX6_setTopSpeed ⟨(Nat.le_of_ble_eq_true rfl), (Nat.le_of_ble_eq_true rfl)⟩ 0 rfl rfl _ (fun u2 => OUTW κ oa (vp_updL fo 0 (((nI (σ (65 + 5 * b + 1)))).toInt64)) ++ (MW κ Ad eo ip (upN (upN w 5 (rmN (w 5))) 1 0) (upN σ (65 + 5 * b + 1) n) aw (hiF (rmH h (w 5) σ)) (hiF s2) ot ++ (SW κ (AA 0) u1.2 ++ (RC ra (AA 0 0) (AA 1 0) (AA 2 0) la lb (AA 6 0) (AA 5 0) ++ (SW κ (AA 1) f ++ (HO κ (AA 2) hf (fwN nx) (mnN ct) ++ (hW κ Hs (upS gh nx u1.1) 10 ++ (SW κ (AA 3) g1 ++ (SO la (AA 3 0) f1 ++ (SW κ (AA 4) g2 ++ (SO lb (AA 4 0) f2 ++ (OW κ (AA 5) no ot ++ (SW κ (AA 7) gp ++ PW κ (AA 6) (AA 7) eo v tx))))))))))))) pmM (fun u2 => pmM.symm) rfl (Nat.le_of_ble_eq_true rfl) dL_law_2368 ⟨by show _ ≤ 601024; omega, by show _ ≤ 7293034; omega⟩ (fun u2 hu2 => ?_)
  refine z_istore C [(6, .int ((nI (σ (65 + 5 * b + 1))))), (5, .int (nI 0)), (0, .ref (sc)), (1, .ref (ra)), (2, .ref (Ad 0)), (3, .ref (oa)), (4, .int (nI i))] dL_law_2371 (by decide) rfl ?_
  refine z_aload_n C dL_law_2373 4 rfl ?_
  refine z_callV C (mX6_thrown l D κ Ad eo ip (upN (upN w 5 (rmN (w 5))) 1 0) (upN σ (65 + 5 * b + 1) n) aw (hiF (rmH h (w 5) σ)) (hiF s2) ot) gL_law_X6_thrown rfl rfl rfl hdX6_thrown ⟨(Nat.le_of_ble_eq_true rfl), (Nat.le_of_ble_eq_true rfl)⟩ 0 rfl rfl _ (fun _ => OUTW κ oa (vp_updL fo 0 (((nI (σ (65 + 5 * b + 1)))).toInt64)) ++ (MW κ Ad eo ip (upN (upN w 5 (rmN (w 5))) 1 0) (upN σ (65 + 5 * b + 1) n) aw (hiF (rmH h (w 5) σ)) (hiF s2) ot ++ (SW κ (AA 0) u1.2 ++ (RC ra (AA 0 0) (AA 1 0) (AA 2 0) la lb (AA 6 0) (AA 5 0) ++ (SW κ (AA 1) f ++ (HO κ (AA 2) hf (fwN nx) (mnN ct) ++ (hW κ Hs (upS gh nx u1.1) 10 ++ (SW κ (AA 3) g1 ++ (SO la (AA 3 0) f1 ++ (SW κ (AA 4) g2 ++ (SO lb (AA 4 0) f2 ++ (OW κ (AA 5) no ot ++ (SW κ (AA 7) gp ++ PW κ (AA 6) (AA 7) eo v tx))))))))))))) pmM (fun _ => pmM.symm) rfl (Nat.le_of_ble_eq_true rfl) dL_law_2374 ⟨by show _ ≤ 601024; omega, by show _ ≤ 7293034; omega⟩ (fun _ _ => ?_)
  refine z_iload C dL_law_2377 1 rfl ?_
  refine z_icmpE C 2384 rfl dL_law_2379 (by decide) ?_
  refine z_iload C dL_law_2384 1 rfl ?_
  refine z_if_ne C 2401 dL_law_2386 (by decide) (fun q => absurd (by decide) q) (fun _ => ?_)
  refine z_aload_n C dL_law_2389 5 rfl ?_
  refine z_iconst (v := nI 0) C dL_law_2390 (by decide) ?_
  refine z_lald C 0 4 rfl rfl (i := 0) (by decide) (by decide) dL_law_2391 ?_
  refine z_iload C dL_law_2392 0 rfl ?_
  refine z_i2l C dL_law_2394 rfl ?_
  refine z_lcmpE C (updL_0) dL_law_2395 ?_
  refine z_if_eq C 2401 dL_law_2396 (by decide) (fun _ => ?_) (fun q => absurd (by decide) q)
  refine z_goto (tgt := 2685) C dL_law_2401 (by decide) ?_
  refine z_lv [2, 3, 4, 5, 6] rfl ?_
  exact K (vp_updL fo 0 (((nI (σ (65 + 5 * b + 1)))).toInt64)) (u1.2) f g1 g2 gp (upS gh nx u1.1) (fwN nx) (mnN ct) f1 f2 no ot eo v tx ip (upN (upN w 5 (rmN (w 5))) 1 0) (upN σ (65 + 5 * b + 1) n) aw (rmH h (w 5) σ) s2 cells slots (by omega) (by omega) (H.push (by omega) (by omega) hu1.1 hu1.2 ((hv.top (by omega) (by omega) (by omega)).mono (by omega) (by omega)) (by rw [upN_n (by omega)]; exact ht0))
set_option maxRecDepth 100000 in
set_option maxHeartbeats 8000000 in
theorem lc_47_no (C : zC p s m args c cL_law 9 wsL_law RL D (zTy κ) A) (hXc : aX adK adV A s s.heap) (hls : l.stackTraces = false) (hX : va_X sc L xs s s.heap) (hb0 : sc < s.heap.size) (hA0 : ¬ A sc) (hhf : ∀ j, j < 10 → hf j = some (Hs j 0)) (hi6 : i + 6 ≤ L) (hL : L ≤ 3072) (hcr : cells + 1 ≤ 601024 ∧ slots + 6 ≤ 7293034) (H : LI M g g1 g2 gh nx ct f1 f2 no v tx ip w σ h s2) (hM1 : 700000 ≤ M) (hM : M ≤ 1400000) (K : LGO p l e s m args below meth c D A Q sc κ ra la lb oa Ad AA Hs hf 2685 (M + 1200) i (cells + 1) (slots + 6)) (x : Int32) (y : Int32) (hx : isB (σ 2) x = false) (hx19 : xs (i + 1) = x) (hx29 : xs (i + 2) = y) : zW p l e RML s m args below meth c 9 D A cells slots Q (LAWW κ ra la lb oa Ad AA Hs hf fo g f g1 g2 gp gh nx ct f1 f2 no ot eo v tx ip w σ aw h s2) [(0, .ref (sc)), (1, .ref (ra)), (2, .ref (Ad 0)), (3, .ref (oa)), (4, .int (nI i))] 2336 [] := by
  obtain ⟨hr, hv, ht0⟩ := id H.1
  obtain ⟨hnx, hct, h5, -⟩ := id H.2.1
  obtain ⟨q1, q2, h7, -, -⟩ := id H.2.2.1
  obtain ⟨v1, hw9, v2, ht⟩ := id H.2.2.2.1
  obtain ⟨hno, hn64⟩ := id H.2.2.2.2
  have n1 := hv.n1
  have n2 := hv.n2
  refine z_aload_n C dL_law_2336 1 rfl ?_
  refine z_aload_n C dL_law_2337 0 rfl ?_
  refine z_iload C dL_law_2338 4 rfl ?_
  refine z_iconst (v := nI 1) C dL_law_2340 (by decide) ?_
  refine zn_iadd C dL_law_2341 ?_
  refine z_sld C hX hb0 hA0 (i := i + 1) (by omega) (by omega) hx19 dL_law_2342 ?_
  refine z_aload_n C dL_law_2343 0 rfl ?_
  refine z_iload C dL_law_2344 4 rfl ?_
  refine z_iconst (v := nI 2) C dL_law_2346 (by decide) ?_
  refine zn_iadd C dL_law_2347 ?_
  refine z_sld C hX hb0 hA0 (i := i + 2) (by omega) (by omega) hx29 dL_law_2348 ?_
  refine z_aload_n C dL_law_2349 3 rfl ?_
  refine zh_callS C (aX_ok adK adV) hXc (mL_setTopSpeed_no l D κ adK adV (AA 0) g ra (AA 1 0) (AA 2 0) la lb (AA 6 0) (AA 5 0) σ M x y hls hr hv hx oa fo) gL_law_L_setTopSpeed rfl rfl rfl hdL_setTopSpeed ⟨(Nat.le_of_ble_eq_true rfl), (Nat.le_of_ble_eq_true rfl)⟩ _ (fun u1 => OUTW κ oa fo ++ (MW κ Ad eo ip w σ aw (hiF h) (hiF s2) ot ++ (SW κ (AA 0) g ++ (RC ra (AA 0 0) (AA 1 0) (AA 2 0) la lb (AA 6 0) (AA 5 0) ++ (SW κ (AA 1) f ++ (HO κ (AA 2) hf nx ct ++ (hW κ Hs gh 10 ++ (SW κ (AA 3) g1 ++ (SO la (AA 3 0) f1 ++ (SW κ (AA 4) g2 ++ (SO lb (AA 4 0) f2 ++ (OW κ (AA 5) no ot ++ (SW κ (AA 7) gp ++ PW κ (AA 6) (AA 7) eo v tx))))))))))))) pmH_S (fun u1 => pmH_S.symm) rfl (Nat.le_of_ble_eq_true rfl) dL_law_2350 ⟨by show _ ≤ 601024; omega, by show _ ≤ 7293034; omega⟩ (fun u1 hu1 => ?_)
  refine z_istore C [(5, .int (nI 1)), (0, .ref (sc)), (1, .ref (ra)), (2, .ref (Ad 0)), (3, .ref (oa)), (4, .int (nI i))] dL_law_2353 (by decide) rfl ?_
  refine z_aload_n C dL_law_2355 3 rfl ?_
  refine z_aload_n C dL_law_2356 1 rfl ?_
  refine z_iload C dL_law_2357 5 rfl ?_
  refine z_iconst (v := nI 1) C dL_law_2359 (by decide) ?_
  refine zn_iadd C dL_law_2360 ?_
  refine z_sld C hX hb0 hA0 (i := i + 1) (by omega) (by omega) hx19 dL_law_2361 ?_
  refine z_aload_n C dL_law_2362 1 rfl ?_
  refine z_iload C dL_law_2363 5 rfl ?_
  refine z_iconst (v := nI 2) C dL_law_2365 (by decide) ?_
  refine zn_iadd C dL_law_2366 ?_
  refine z_sld C hX hb0 hA0 (i := i + 2) (by omega) (by omega) hx29 dL_law_2367 ?_
  refine z_callV C (mX6_setTopSpeed_no l D κ Ad eo ip w σ aw (hiF h) (hiF s2) ot M x y hv.1 hx) gL_law_X6_setTopSpeed rfl rfl rfl hdX6_setTopSpeed ⟨(Nat.le_of_ble_eq_true rfl), (Nat.le_of_ble_eq_true rfl)⟩ 0 rfl rfl _ (fun u2 => OUTW κ oa fo ++ (MW κ Ad eo ip (upN w 1 1) σ aw (hiF h) (hiF s2) ot ++ (SW κ (AA 0) g ++ (RC ra (AA 0 0) (AA 1 0) (AA 2 0) la lb (AA 6 0) (AA 5 0) ++ (SW κ (AA 1) f ++ (HO κ (AA 2) hf nx ct ++ (hW κ Hs gh 10 ++ (SW κ (AA 3) g1 ++ (SO la (AA 3 0) f1 ++ (SW κ (AA 4) g2 ++ (SO lb (AA 4 0) f2 ++ (OW κ (AA 5) no ot ++ (SW κ (AA 7) gp ++ PW κ (AA 6) (AA 7) eo v tx))))))))))))) pmM (fun u2 => pmM.symm) rfl (Nat.le_of_ble_eq_true rfl) dL_law_2368 ⟨by show _ ≤ 601024; omega, by show _ ≤ 7293034; omega⟩ (fun u2 hu2 => ?_)
  refine z_istore C [(6, .int ((nI 0))), (5, .int (nI 1)), (0, .ref (sc)), (1, .ref (ra)), (2, .ref (Ad 0)), (3, .ref (oa)), (4, .int (nI i))] dL_law_2371 (by decide) rfl ?_
  refine z_aload_n C dL_law_2373 4 rfl ?_
  refine z_callV C (mX6_thrown l D κ Ad eo ip (upN w 1 1) σ aw (hiF h) (hiF s2) ot) gL_law_X6_thrown rfl rfl rfl hdX6_thrown ⟨(Nat.le_of_ble_eq_true rfl), (Nat.le_of_ble_eq_true rfl)⟩ 0 rfl rfl _ (fun _ => OUTW κ oa fo ++ (MW κ Ad eo ip (upN w 1 1) σ aw (hiF h) (hiF s2) ot ++ (SW κ (AA 0) g ++ (RC ra (AA 0 0) (AA 1 0) (AA 2 0) la lb (AA 6 0) (AA 5 0) ++ (SW κ (AA 1) f ++ (HO κ (AA 2) hf nx ct ++ (hW κ Hs gh 10 ++ (SW κ (AA 3) g1 ++ (SO la (AA 3 0) f1 ++ (SW κ (AA 4) g2 ++ (SO lb (AA 4 0) f2 ++ (OW κ (AA 5) no ot ++ (SW κ (AA 7) gp ++ PW κ (AA 6) (AA 7) eo v tx))))))))))))) pmM (fun _ => pmM.symm) rfl (Nat.le_of_ble_eq_true rfl) dL_law_2374 ⟨by show _ ≤ 601024; omega, by show _ ≤ 7293034; omega⟩ (fun _ _ => ?_)
  refine z_iload C dL_law_2377 1 rfl ?_
  refine z_icmpE C 2384 rfl dL_law_2379 (by decide) ?_
  refine z_iload C dL_law_2384 1 rfl ?_
  refine z_if_ne C 2401 dL_law_2386 (by decide) (fun _ => ?_) (fun q => absurd q (by decide))
  refine z_goto (tgt := 2685) C dL_law_2401 (by decide) ?_
  refine z_lv [2, 3, 4, 5, 6] rfl ?_
  exact K fo g f g1 g2 gp gh nx ct f1 f2 no ot eo v tx ip (upN w 1 1) σ aw h s2 (cells + 1) (slots + 6) (by omega) (by omega) ((H.mono (by omega) (by omega)).w1 _)
set_option maxRecDepth 100000 in
set_option maxHeartbeats 8000000 in
theorem lc_47_rng (C : zC p s m args c cL_law 9 wsL_law RL D (zTy κ) A) (hXc : aX adK adV A s s.heap) (hls : l.stackTraces = false) (hX : va_X sc L xs s s.heap) (hb0 : sc < s.heap.size) (hA0 : ¬ A sc) (hhf : ∀ j, j < 10 → hf j = some (Hs j 0)) (hi6 : i + 6 ≤ L) (hL : L ≤ 3072) (hcr : cells + 1 ≤ 601024 ∧ slots + 6 ≤ 7293034) (H : LI M g g1 g2 gh nx ct f1 f2 no v tx ip w σ h s2) (hM1 : 700000 ≤ M) (hM : M ≤ 1400000) (K : LGO p l e s m args below meth c D A Q sc κ ra la lb oa Ad AA Hs hf 2685 (M + 1200) i (cells + 1) (slots + 6)) (b : Nat) (x : Int32) (hb : b < σ 2) (hx : inI x (nI 1) (nI 5) = false) (hx19 : xs (i + 1) = nI b) (hx29 : xs (i + 2) = x) : zW p l e RML s m args below meth c 9 D A cells slots Q (LAWW κ ra la lb oa Ad AA Hs hf fo g f g1 g2 gp gh nx ct f1 f2 no ot eo v tx ip w σ aw h s2) [(0, .ref (sc)), (1, .ref (ra)), (2, .ref (Ad 0)), (3, .ref (oa)), (4, .int (nI i))] 2336 [] := by
  obtain ⟨hr, hv, ht0⟩ := id H.1
  obtain ⟨hnx, hct, h5, -⟩ := id H.2.1
  obtain ⟨q1, q2, h7, -, -⟩ := id H.2.2.1
  obtain ⟨v1, hw9, v2, ht⟩ := id H.2.2.2.1
  obtain ⟨hno, hn64⟩ := id H.2.2.2.2
  have n1 := hv.n1
  have n2 := hv.n2
  refine z_aload_n C dL_law_2336 1 rfl ?_
  refine z_aload_n C dL_law_2337 0 rfl ?_
  refine z_iload C dL_law_2338 4 rfl ?_
  refine z_iconst (v := nI 1) C dL_law_2340 (by decide) ?_
  refine zn_iadd C dL_law_2341 ?_
  refine z_sld C hX hb0 hA0 (i := i + 1) (by omega) (by omega) hx19 dL_law_2342 ?_
  refine z_aload_n C dL_law_2343 0 rfl ?_
  refine z_iload C dL_law_2344 4 rfl ?_
  refine z_iconst (v := nI 2) C dL_law_2346 (by decide) ?_
  refine zn_iadd C dL_law_2347 ?_
  refine z_sld C hX hb0 hA0 (i := i + 2) (by omega) (by omega) hx29 dL_law_2348 ?_
  refine z_aload_n C dL_law_2349 3 rfl ?_
  refine zh_callS C (aX_ok adK adV) hXc (mL_setTopSpeed_rng l D κ adK adV (AA 0) g ra (AA 1 0) (AA 2 0) la lb (AA 6 0) (AA 5 0) σ M b x hls hr hv hb hx oa fo) gL_law_L_setTopSpeed rfl rfl rfl hdL_setTopSpeed ⟨(Nat.le_of_ble_eq_true rfl), (Nat.le_of_ble_eq_true rfl)⟩ _ (fun u1 => OUTW κ oa fo ++ (MW κ Ad eo ip w σ aw (hiF h) (hiF s2) ot ++ (SW κ (AA 0) g ++ (RC ra (AA 0 0) (AA 1 0) (AA 2 0) la lb (AA 6 0) (AA 5 0) ++ (SW κ (AA 1) f ++ (HO κ (AA 2) hf nx ct ++ (hW κ Hs gh 10 ++ (SW κ (AA 3) g1 ++ (SO la (AA 3 0) f1 ++ (SW κ (AA 4) g2 ++ (SO lb (AA 4 0) f2 ++ (OW κ (AA 5) no ot ++ (SW κ (AA 7) gp ++ PW κ (AA 6) (AA 7) eo v tx))))))))))))) pmH_S (fun u1 => pmH_S.symm) rfl (Nat.le_of_ble_eq_true rfl) dL_law_2350 ⟨by show _ ≤ 601024; omega, by show _ ≤ 7293034; omega⟩ (fun u1 hu1 => ?_)
  refine z_istore C [(5, .int (nI 2)), (0, .ref (sc)), (1, .ref (ra)), (2, .ref (Ad 0)), (3, .ref (oa)), (4, .int (nI i))] dL_law_2353 (by decide) rfl ?_
  refine z_aload_n C dL_law_2355 3 rfl ?_
  refine z_aload_n C dL_law_2356 1 rfl ?_
  refine z_iload C dL_law_2357 5 rfl ?_
  refine z_iconst (v := nI 1) C dL_law_2359 (by decide) ?_
  refine zn_iadd C dL_law_2360 ?_
  refine z_sld C hX hb0 hA0 (i := i + 1) (by omega) (by omega) hx19 dL_law_2361 ?_
  refine z_aload_n C dL_law_2362 1 rfl ?_
  refine z_iload C dL_law_2363 5 rfl ?_
  refine z_iconst (v := nI 2) C dL_law_2365 (by decide) ?_
  refine zn_iadd C dL_law_2366 ?_
  refine z_sld C hX hb0 hA0 (i := i + 2) (by omega) (by omega) hx29 dL_law_2367 ?_
  refine z_callV C (mX6_setTopSpeed_rng l D κ Ad eo ip w σ aw (hiF h) (hiF s2) ot M b x hv.1 (by first | assumption | omega) hx) gL_law_X6_setTopSpeed rfl rfl rfl hdX6_setTopSpeed ⟨(Nat.le_of_ble_eq_true rfl), (Nat.le_of_ble_eq_true rfl)⟩ 0 rfl rfl _ (fun u2 => OUTW κ oa fo ++ (MW κ Ad eo ip (upN w 1 2) σ aw (hiF h) (hiF s2) ot ++ (SW κ (AA 0) g ++ (RC ra (AA 0 0) (AA 1 0) (AA 2 0) la lb (AA 6 0) (AA 5 0) ++ (SW κ (AA 1) f ++ (HO κ (AA 2) hf nx ct ++ (hW κ Hs gh 10 ++ (SW κ (AA 3) g1 ++ (SO la (AA 3 0) f1 ++ (SW κ (AA 4) g2 ++ (SO lb (AA 4 0) f2 ++ (OW κ (AA 5) no ot ++ (SW κ (AA 7) gp ++ PW κ (AA 6) (AA 7) eo v tx))))))))))))) pmM (fun u2 => pmM.symm) rfl (Nat.le_of_ble_eq_true rfl) dL_law_2368 ⟨by show _ ≤ 601024; omega, by show _ ≤ 7293034; omega⟩ (fun u2 hu2 => ?_)
  refine z_istore C [(6, .int ((nI 0))), (5, .int (nI 2)), (0, .ref (sc)), (1, .ref (ra)), (2, .ref (Ad 0)), (3, .ref (oa)), (4, .int (nI i))] dL_law_2371 (by decide) rfl ?_
  refine z_aload_n C dL_law_2373 4 rfl ?_
  refine z_callV C (mX6_thrown l D κ Ad eo ip (upN w 1 2) σ aw (hiF h) (hiF s2) ot) gL_law_X6_thrown rfl rfl rfl hdX6_thrown ⟨(Nat.le_of_ble_eq_true rfl), (Nat.le_of_ble_eq_true rfl)⟩ 0 rfl rfl _ (fun _ => OUTW κ oa fo ++ (MW κ Ad eo ip (upN w 1 2) σ aw (hiF h) (hiF s2) ot ++ (SW κ (AA 0) g ++ (RC ra (AA 0 0) (AA 1 0) (AA 2 0) la lb (AA 6 0) (AA 5 0) ++ (SW κ (AA 1) f ++ (HO κ (AA 2) hf nx ct ++ (hW κ Hs gh 10 ++ (SW κ (AA 3) g1 ++ (SO la (AA 3 0) f1 ++ (SW κ (AA 4) g2 ++ (SO lb (AA 4 0) f2 ++ (OW κ (AA 5) no ot ++ (SW κ (AA 7) gp ++ PW κ (AA 6) (AA 7) eo v tx))))))))))))) pmM (fun _ => pmM.symm) rfl (Nat.le_of_ble_eq_true rfl) dL_law_2374 ⟨by show _ ≤ 601024; omega, by show _ ≤ 7293034; omega⟩ (fun _ _ => ?_)
  refine z_iload C dL_law_2377 1 rfl ?_
  refine z_icmpE C 2384 rfl dL_law_2379 (by decide) ?_
  refine z_iload C dL_law_2384 1 rfl ?_
  refine z_if_ne C 2401 dL_law_2386 (by decide) (fun _ => ?_) (fun q => absurd q (by decide))
  refine z_goto (tgt := 2685) C dL_law_2401 (by decide) ?_
  refine z_lv [2, 3, 4, 5, 6] rfl ?_
  exact K fo g f g1 g2 gp gh nx ct f1 f2 no ot eo v tx ip (upN w 1 2) σ aw h s2 (cells + 1) (slots + 6) (by omega) (by omega) ((H.mono (by omega) (by omega)).w1 _)
set_option maxRecDepth 100000 in
set_option maxHeartbeats 8000000 in
theorem lc_48_ok0 (C : zC p s m args c cL_law 9 wsL_law RL D (zTy κ) A) (hXc : aX adK adV A s s.heap) (hls : l.stackTraces = false) (hX : va_X sc L xs s s.heap) (hb0 : sc < s.heap.size) (hA0 : ¬ A sc) (hhf : ∀ j, j < 10 → hf j = some (Hs j 0)) (hi6 : i + 6 ≤ L) (hL : L ≤ 3072) (hcr : cells + 1 ≤ 601024 ∧ slots + 6 ≤ 7293034) (H : LI M g g1 g2 gh nx ct f1 f2 no v tx ip w σ h s2) (hM1 : 700000 ≤ M) (hM : M ≤ 1400000) (K : LGO p l e s m args below meth c D A Q sc κ ra la lb oa Ad AA Hs hf 2685 (M + 1200) i (cells + 1) (slots + 6))  (hf19 : f1 = 1) (hx19 : xs (i + 1) = nI 0) : zW p l e RML s m args below meth c 9 D A cells slots Q (LAWW κ ra la lb oa Ad AA Hs hf fo g f g1 g2 gp gh nx ct f1 f2 no ot eo v tx ip w σ aw h s2) [(0, .ref (sc)), (1, .ref (ra)), (2, .ref (Ad 0)), (3, .ref (oa)), (4, .int (nI i))] 2404 [] := by
  subst hf19
  obtain ⟨hr, hv, ht0⟩ := id H.1
  obtain ⟨hnx, hct, h5, -⟩ := id H.2.1
  obtain ⟨q1, q2, h7, -, -⟩ := id H.2.2.1
  obtain ⟨v1, hw9, v2, ht⟩ := id H.2.2.2.1
  obtain ⟨hno, hn64⟩ := id H.2.2.2.2
  have n1 := hv.n1
  have n2 := hv.n2
  have hsl := H.2.2.1.2.2.2.1 rfl
  refine z_aload_n C dL_law_2404 1 rfl ?_
  refine z_aload_n C dL_law_2405 0 rfl ?_
  refine z_iload C dL_law_2406 4 rfl ?_
  refine z_iconst (v := nI 1) C dL_law_2408 (by decide) ?_
  refine zn_iadd C dL_law_2409 ?_
  refine z_sld C hX hb0 hA0 (i := i + 1) (by omega) (by omega) hx19 dL_law_2410 ?_
  refine z_aload_n C dL_law_2411 3 rfl ?_
  refine zh_callS C (aX_ok adK adV) hXc (mL_restore_ok l D κ (AA 0) (AA 2) Hs hf ra (AA 1 0) la lb (AA 6 0) (AA 5 0) g nx ct gh σ M (AA 3) g1 (s2 0) 0 hr hv hhf hnx hct hsl.1 hsl.2.1 (by decide) adK adV oa fo) gL_law_L_restore rfl rfl rfl hdL_restore ⟨(Nat.le_of_ble_eq_true rfl), (Nat.le_of_ble_eq_true rfl)⟩ _ (fun u1 => OUTW κ oa (vp_updL fo 0 (((nI ((s2 0) 0))).toInt64)) ++ (MW κ Ad eo ip w σ aw (hiF h) (hiF s2) ot ++ (SW κ (AA 0) u1.2 ++ (RC ra (AA 0 0) (AA 1 0) (AA 2 0) la lb (AA 6 0) (AA 5 0) ++ (SW κ (AA 1) f ++ (HO κ (AA 2) hf (fwN nx) (mnN ct) ++ (hW κ Hs (upS gh nx u1.1) 10 ++ (SW κ (AA 3) g1 ++ (SO la (AA 3 0) 1 ++ (SW κ (AA 4) g2 ++ (SO lb (AA 4 0) f2 ++ (OW κ (AA 5) no ot ++ (SW κ (AA 7) gp ++ PW κ (AA 6) (AA 7) eo v tx))))))))))))) pmH_ra (fun u1 => pmH_ra.symm) rfl (Nat.le_of_ble_eq_true rfl) dL_law_2412 ⟨by show _ ≤ 601024; omega, by show _ ≤ 7293034; omega⟩ (fun u1 hu1 => ?_)
  refine z_istore C [(5, .int (nI 0)), (0, .ref (sc)), (1, .ref (ra)), (2, .ref (Ad 0)), (3, .ref (oa)), (4, .int (nI i))] dL_law_2415 (by decide) rfl ?_
  refine z_aload_n C dL_law_2417 3 rfl ?_
  refine z_aload_n C dL_law_2418 1 rfl ?_
  refine z_iload C dL_law_2419 5 rfl ?_
  refine z_iconst (v := nI 1) C dL_law_2421 (by decide) ?_
  refine zn_iadd C dL_law_2422 ?_
  refine z_sld C hX hb0 hA0 (i := i + 1) (by omega) (by omega) hx19 dL_law_2423 ?_
  refine z_callV C (mX6_restore_ok l D κ Ad eo ip w σ aw (hiF h) (hiF s2) ot M h s2 0 hv.1 (by first | assumption | omega) (by first | assumption | omega) (by omega) (by rw [h7]; simp only [show (2:Nat)^0 = 1 from rfl, show (2:Nat)^1 = 2 from rfl]; omega)) gL_law_X6_restore rfl rfl rfl hdX6_restore ⟨(Nat.le_of_ble_eq_true rfl), (Nat.le_of_ble_eq_true rfl)⟩ 0 rfl rfl _ (fun u2 => OUTW κ oa (vp_updL fo 0 (((nI ((s2 0) 0))).toInt64)) ++ (MW κ Ad eo ip (upN (upN w 5 (rmN (w 5))) 1 0) (s2 0) aw (hiF (rmH h (w 5) σ)) (hiF s2) ot ++ (SW κ (AA 0) u1.2 ++ (RC ra (AA 0 0) (AA 1 0) (AA 2 0) la lb (AA 6 0) (AA 5 0) ++ (SW κ (AA 1) f ++ (HO κ (AA 2) hf (fwN nx) (mnN ct) ++ (hW κ Hs (upS gh nx u1.1) 10 ++ (SW κ (AA 3) g1 ++ (SO la (AA 3 0) 1 ++ (SW κ (AA 4) g2 ++ (SO lb (AA 4 0) f2 ++ (OW κ (AA 5) no ot ++ (SW κ (AA 7) gp ++ PW κ (AA 6) (AA 7) eo v tx))))))))))))) pmM (fun u2 => pmM.symm) rfl (Nat.le_of_ble_eq_true rfl) dL_law_2424 ⟨by show _ ≤ 601024; omega, by show _ ≤ 7293034; omega⟩ (fun u2 hu2 => ?_)
  refine z_istore C [(6, .int ((nI (s2 0 0)))), (5, .int (nI 0)), (0, .ref (sc)), (1, .ref (ra)), (2, .ref (Ad 0)), (3, .ref (oa)), (4, .int (nI i))] dL_law_2427 (by decide) rfl ?_
  refine z_aload_n C dL_law_2429 4 rfl ?_
  refine z_callV C (mX6_thrown l D κ Ad eo ip (upN (upN w 5 (rmN (w 5))) 1 0) (s2 0) aw (hiF (rmH h (w 5) σ)) (hiF s2) ot) gL_law_X6_thrown rfl rfl rfl hdX6_thrown ⟨(Nat.le_of_ble_eq_true rfl), (Nat.le_of_ble_eq_true rfl)⟩ 0 rfl rfl _ (fun _ => OUTW κ oa (vp_updL fo 0 (((nI ((s2 0) 0))).toInt64)) ++ (MW κ Ad eo ip (upN (upN w 5 (rmN (w 5))) 1 0) (s2 0) aw (hiF (rmH h (w 5) σ)) (hiF s2) ot ++ (SW κ (AA 0) u1.2 ++ (RC ra (AA 0 0) (AA 1 0) (AA 2 0) la lb (AA 6 0) (AA 5 0) ++ (SW κ (AA 1) f ++ (HO κ (AA 2) hf (fwN nx) (mnN ct) ++ (hW κ Hs (upS gh nx u1.1) 10 ++ (SW κ (AA 3) g1 ++ (SO la (AA 3 0) 1 ++ (SW κ (AA 4) g2 ++ (SO lb (AA 4 0) f2 ++ (OW κ (AA 5) no ot ++ (SW κ (AA 7) gp ++ PW κ (AA 6) (AA 7) eo v tx))))))))))))) pmM (fun _ => pmM.symm) rfl (Nat.le_of_ble_eq_true rfl) dL_law_2430 ⟨by show _ ≤ 601024; omega, by show _ ≤ 7293034; omega⟩ (fun _ _ => ?_)
  refine z_iload C dL_law_2433 1 rfl ?_
  refine z_icmpE C 2440 rfl dL_law_2435 (by decide) ?_
  refine z_iload C dL_law_2440 1 rfl ?_
  refine z_if_ne C 2457 dL_law_2442 (by decide) (fun q => absurd (by decide) q) (fun _ => ?_)
  refine z_aload_n C dL_law_2445 5 rfl ?_
  refine z_iconst (v := nI 0) C dL_law_2446 (by decide) ?_
  refine z_lald C 0 4 rfl rfl (i := 0) (by decide) (by decide) dL_law_2447 ?_
  refine z_iload C dL_law_2448 0 rfl ?_
  refine z_i2l C dL_law_2450 rfl ?_
  refine z_lcmpE C (updL_0) dL_law_2451 ?_
  refine z_if_eq C 2457 dL_law_2452 (by decide) (fun _ => ?_) (fun q => absurd (by decide) q)
  refine z_goto (tgt := 2685) C dL_law_2457 (by decide) ?_
  refine z_lv [2, 3, 4, 5, 6] rfl ?_
  exact K (vp_updL fo 0 (((nI ((s2 0) 0))).toInt64)) (u1.2) f g1 g2 gp (upS gh nx u1.1) (fwN nx) (mnN ct) 1 f2 no ot eo v tx ip (upN (upN w 5 (rmN (w 5))) 1 0) (s2 0) aw (rmH h (w 5) σ) s2 cells slots (by omega) (by omega) (H.push (by omega) (by omega) hu1.1 hu1.2 (hsl.2.1.mono (by omega) (by omega)) hsl.2.2)
set_option maxRecDepth 100000 in
set_option maxHeartbeats 8000000 in
theorem lc_48_ok1 (C : zC p s m args c cL_law 9 wsL_law RL D (zTy κ) A) (hXc : aX adK adV A s s.heap) (hls : l.stackTraces = false) (hX : va_X sc L xs s s.heap) (hb0 : sc < s.heap.size) (hA0 : ¬ A sc) (hhf : ∀ j, j < 10 → hf j = some (Hs j 0)) (hi6 : i + 6 ≤ L) (hL : L ≤ 3072) (hcr : cells + 1 ≤ 601024 ∧ slots + 6 ≤ 7293034) (H : LI M g g1 g2 gh nx ct f1 f2 no v tx ip w σ h s2) (hM1 : 700000 ≤ M) (hM : M ≤ 1400000) (K : LGO p l e s m args below meth c D A Q sc κ ra la lb oa Ad AA Hs hf 2685 (M + 1200) i (cells + 1) (slots + 6))  (hf29 : f2 = 1) (hx19 : xs (i + 1) = nI 1) : zW p l e RML s m args below meth c 9 D A cells slots Q (LAWW κ ra la lb oa Ad AA Hs hf fo g f g1 g2 gp gh nx ct f1 f2 no ot eo v tx ip w σ aw h s2) [(0, .ref (sc)), (1, .ref (ra)), (2, .ref (Ad 0)), (3, .ref (oa)), (4, .int (nI i))] 2404 [] := by
  subst hf29
  obtain ⟨hr, hv, ht0⟩ := id H.1
  obtain ⟨hnx, hct, h5, -⟩ := id H.2.1
  obtain ⟨q1, q2, h7, -, -⟩ := id H.2.2.1
  obtain ⟨v1, hw9, v2, ht⟩ := id H.2.2.2.1
  obtain ⟨hno, hn64⟩ := id H.2.2.2.2
  have n1 := hv.n1
  have n2 := hv.n2
  have hsl := H.2.2.1.2.2.2.2 rfl
  refine z_aload_n C dL_law_2404 1 rfl ?_
  refine z_aload_n C dL_law_2405 0 rfl ?_
  refine z_iload C dL_law_2406 4 rfl ?_
  refine z_iconst (v := nI 1) C dL_law_2408 (by decide) ?_
  refine zn_iadd C dL_law_2409 ?_
  refine z_sld C hX hb0 hA0 (i := i + 1) (by omega) (by omega) hx19 dL_law_2410 ?_
  refine z_aload_n C dL_law_2411 3 rfl ?_
  refine zh_callS C (aX_ok adK adV) hXc (mL_restore_ok l D κ (AA 0) (AA 2) Hs hf ra (AA 1 0) la lb (AA 6 0) (AA 5 0) g nx ct gh σ M (AA 4) g2 (s2 1) 1 hr hv hhf hnx hct hsl.1 hsl.2.1 (by decide) adK adV oa fo) gL_law_L_restore rfl rfl rfl hdL_restore ⟨(Nat.le_of_ble_eq_true rfl), (Nat.le_of_ble_eq_true rfl)⟩ _ (fun u1 => OUTW κ oa (vp_updL fo 0 (((nI ((s2 1) 0))).toInt64)) ++ (MW κ Ad eo ip w σ aw (hiF h) (hiF s2) ot ++ (SW κ (AA 0) u1.2 ++ (RC ra (AA 0 0) (AA 1 0) (AA 2 0) la lb (AA 6 0) (AA 5 0) ++ (SW κ (AA 1) f ++ (HO κ (AA 2) hf (fwN nx) (mnN ct) ++ (hW κ Hs (upS gh nx u1.1) 10 ++ (SW κ (AA 3) g1 ++ (SO la (AA 3 0) f1 ++ (SW κ (AA 4) g2 ++ (SO lb (AA 4 0) 1 ++ (OW κ (AA 5) no ot ++ (SW κ (AA 7) gp ++ PW κ (AA 6) (AA 7) eo v tx))))))))))))) pmH_rb (fun u1 => pmH_rb.symm) rfl (Nat.le_of_ble_eq_true rfl) dL_law_2412 ⟨by show _ ≤ 601024; omega, by show _ ≤ 7293034; omega⟩ (fun u1 hu1 => ?_)
  refine z_istore C [(5, .int (nI 0)), (0, .ref (sc)), (1, .ref (ra)), (2, .ref (Ad 0)), (3, .ref (oa)), (4, .int (nI i))] dL_law_2415 (by decide) rfl ?_
  refine z_aload_n C dL_law_2417 3 rfl ?_
  refine z_aload_n C dL_law_2418 1 rfl ?_
  refine z_iload C dL_law_2419 5 rfl ?_
  refine z_iconst (v := nI 1) C dL_law_2421 (by decide) ?_
  refine zn_iadd C dL_law_2422 ?_
  refine z_sld C hX hb0 hA0 (i := i + 1) (by omega) (by omega) hx19 dL_law_2423 ?_
  refine z_callV C (mX6_restore_ok l D κ Ad eo ip w σ aw (hiF h) (hiF s2) ot M h s2 1 hv.1 (by first | assumption | omega) (by first | assumption | omega) (by omega) (by rw [h7]; simp only [show (2:Nat)^0 = 1 from rfl, show (2:Nat)^1 = 2 from rfl]; omega)) gL_law_X6_restore rfl rfl rfl hdX6_restore ⟨(Nat.le_of_ble_eq_true rfl), (Nat.le_of_ble_eq_true rfl)⟩ 0 rfl rfl _ (fun u2 => OUTW κ oa (vp_updL fo 0 (((nI ((s2 1) 0))).toInt64)) ++ (MW κ Ad eo ip (upN (upN w 5 (rmN (w 5))) 1 0) (s2 1) aw (hiF (rmH h (w 5) σ)) (hiF s2) ot ++ (SW κ (AA 0) u1.2 ++ (RC ra (AA 0 0) (AA 1 0) (AA 2 0) la lb (AA 6 0) (AA 5 0) ++ (SW κ (AA 1) f ++ (HO κ (AA 2) hf (fwN nx) (mnN ct) ++ (hW κ Hs (upS gh nx u1.1) 10 ++ (SW κ (AA 3) g1 ++ (SO la (AA 3 0) f1 ++ (SW κ (AA 4) g2 ++ (SO lb (AA 4 0) 1 ++ (OW κ (AA 5) no ot ++ (SW κ (AA 7) gp ++ PW κ (AA 6) (AA 7) eo v tx))))))))))))) pmM (fun u2 => pmM.symm) rfl (Nat.le_of_ble_eq_true rfl) dL_law_2424 ⟨by show _ ≤ 601024; omega, by show _ ≤ 7293034; omega⟩ (fun u2 hu2 => ?_)
  refine z_istore C [(6, .int ((nI (s2 1 0)))), (5, .int (nI 0)), (0, .ref (sc)), (1, .ref (ra)), (2, .ref (Ad 0)), (3, .ref (oa)), (4, .int (nI i))] dL_law_2427 (by decide) rfl ?_
  refine z_aload_n C dL_law_2429 4 rfl ?_
  refine z_callV C (mX6_thrown l D κ Ad eo ip (upN (upN w 5 (rmN (w 5))) 1 0) (s2 1) aw (hiF (rmH h (w 5) σ)) (hiF s2) ot) gL_law_X6_thrown rfl rfl rfl hdX6_thrown ⟨(Nat.le_of_ble_eq_true rfl), (Nat.le_of_ble_eq_true rfl)⟩ 0 rfl rfl _ (fun _ => OUTW κ oa (vp_updL fo 0 (((nI ((s2 1) 0))).toInt64)) ++ (MW κ Ad eo ip (upN (upN w 5 (rmN (w 5))) 1 0) (s2 1) aw (hiF (rmH h (w 5) σ)) (hiF s2) ot ++ (SW κ (AA 0) u1.2 ++ (RC ra (AA 0 0) (AA 1 0) (AA 2 0) la lb (AA 6 0) (AA 5 0) ++ (SW κ (AA 1) f ++ (HO κ (AA 2) hf (fwN nx) (mnN ct) ++ (hW κ Hs (upS gh nx u1.1) 10 ++ (SW κ (AA 3) g1 ++ (SO la (AA 3 0) f1 ++ (SW κ (AA 4) g2 ++ (SO lb (AA 4 0) 1 ++ (OW κ (AA 5) no ot ++ (SW κ (AA 7) gp ++ PW κ (AA 6) (AA 7) eo v tx))))))))))))) pmM (fun _ => pmM.symm) rfl (Nat.le_of_ble_eq_true rfl) dL_law_2430 ⟨by show _ ≤ 601024; omega, by show _ ≤ 7293034; omega⟩ (fun _ _ => ?_)
  refine z_iload C dL_law_2433 1 rfl ?_
  refine z_icmpE C 2440 rfl dL_law_2435 (by decide) ?_
  refine z_iload C dL_law_2440 1 rfl ?_
  refine z_if_ne C 2457 dL_law_2442 (by decide) (fun q => absurd (by decide) q) (fun _ => ?_)
  refine z_aload_n C dL_law_2445 5 rfl ?_
  refine z_iconst (v := nI 0) C dL_law_2446 (by decide) ?_
  refine z_lald C 0 4 rfl rfl (i := 0) (by decide) (by decide) dL_law_2447 ?_
  refine z_iload C dL_law_2448 0 rfl ?_
  refine z_i2l C dL_law_2450 rfl ?_
  refine z_lcmpE C (updL_0) dL_law_2451 ?_
  refine z_if_eq C 2457 dL_law_2452 (by decide) (fun _ => ?_) (fun q => absurd (by decide) q)
  refine z_goto (tgt := 2685) C dL_law_2457 (by decide) ?_
  refine z_lv [2, 3, 4, 5, 6] rfl ?_
  exact K (vp_updL fo 0 (((nI ((s2 1) 0))).toInt64)) (u1.2) f g1 g2 gp (upS gh nx u1.1) (fwN nx) (mnN ct) f1 1 no ot eo v tx ip (upN (upN w 5 (rmN (w 5))) 1 0) (s2 1) aw (rmH h (w 5) σ) s2 cells slots (by omega) (by omega) (H.push (by omega) (by omega) hu1.1 hu1.2 (hsl.2.1.mono (by omega) (by omega)) hsl.2.2)
set_option maxRecDepth 100000 in
set_option maxHeartbeats 8000000 in
theorem lc_48_no (C : zC p s m args c cL_law 9 wsL_law RL D (zTy κ) A) (hXc : aX adK adV A s s.heap) (hls : l.stackTraces = false) (hX : va_X sc L xs s s.heap) (hb0 : sc < s.heap.size) (hA0 : ¬ A sc) (hhf : ∀ j, j < 10 → hf j = some (Hs j 0)) (hi6 : i + 6 ≤ L) (hL : L ≤ 3072) (hcr : cells + 1 ≤ 601024 ∧ slots + 6 ≤ 7293034) (H : LI M g g1 g2 gh nx ct f1 f2 no v tx ip w σ h s2) (hM1 : 700000 ≤ M) (hM : M ≤ 1400000) (K : LGO p l e s m args below meth c D A Q sc κ ra la lb oa Ad AA Hs hf 2685 (M + 1200) i (cells + 1) (slots + 6)) (x : Int32) (hx : inI x (nI 0) (nI 1) = false) (hx19 : xs (i + 1) = x) : zW p l e RML s m args below meth c 9 D A cells slots Q (LAWW κ ra la lb oa Ad AA Hs hf fo g f g1 g2 gp gh nx ct f1 f2 no ot eo v tx ip w σ aw h s2) [(0, .ref (sc)), (1, .ref (ra)), (2, .ref (Ad 0)), (3, .ref (oa)), (4, .int (nI i))] 2404 [] := by
  obtain ⟨hr, hv, ht0⟩ := id H.1
  obtain ⟨hnx, hct, h5, -⟩ := id H.2.1
  obtain ⟨q1, q2, h7, -, -⟩ := id H.2.2.1
  obtain ⟨v1, hw9, v2, ht⟩ := id H.2.2.2.1
  obtain ⟨hno, hn64⟩ := id H.2.2.2.2
  have n1 := hv.n1
  have n2 := hv.n2
  refine z_aload_n C dL_law_2404 1 rfl ?_
  refine z_aload_n C dL_law_2405 0 rfl ?_
  refine z_iload C dL_law_2406 4 rfl ?_
  refine z_iconst (v := nI 1) C dL_law_2408 (by decide) ?_
  refine zn_iadd C dL_law_2409 ?_
  refine z_sld C hX hb0 hA0 (i := i + 1) (by omega) (by omega) hx19 dL_law_2410 ?_
  refine z_aload_n C dL_law_2411 3 rfl ?_
  refine zh_callS C (aX_ok adK adV) hXc (mL_restore_no l D κ adK adV ra (AA 0 0) (AA 1 0) (AA 2 0) la lb (AA 6 0) (AA 5 0) x hls hx oa fo) gL_law_L_restore rfl rfl rfl hdL_restore ⟨(Nat.le_of_ble_eq_true rfl), (Nat.le_of_ble_eq_true rfl)⟩ _ (fun u1 => OUTW κ oa fo ++ (MW κ Ad eo ip w σ aw (hiF h) (hiF s2) ot ++ (SW κ (AA 0) g ++ (RC ra (AA 0 0) (AA 1 0) (AA 2 0) la lb (AA 6 0) (AA 5 0) ++ (SW κ (AA 1) f ++ (HO κ (AA 2) hf nx ct ++ (hW κ Hs gh 10 ++ (SW κ (AA 3) g1 ++ (SO la (AA 3 0) f1 ++ (SW κ (AA 4) g2 ++ (SO lb (AA 4 0) f2 ++ (OW κ (AA 5) no ot ++ (SW κ (AA 7) gp ++ PW κ (AA 6) (AA 7) eo v tx))))))))))))) pmH_R (fun u1 => pmH_R.symm) rfl (Nat.le_of_ble_eq_true rfl) dL_law_2412 ⟨by show _ ≤ 601024; omega, by show _ ≤ 7293034; omega⟩ (fun u1 hu1 => ?_)
  refine z_istore C [(5, .int (nI 1)), (0, .ref (sc)), (1, .ref (ra)), (2, .ref (Ad 0)), (3, .ref (oa)), (4, .int (nI i))] dL_law_2415 (by decide) rfl ?_
  refine z_aload_n C dL_law_2417 3 rfl ?_
  refine z_aload_n C dL_law_2418 1 rfl ?_
  refine z_iload C dL_law_2419 5 rfl ?_
  refine z_iconst (v := nI 1) C dL_law_2421 (by decide) ?_
  refine zn_iadd C dL_law_2422 ?_
  refine z_sld C hX hb0 hA0 (i := i + 1) (by omega) (by omega) hx19 dL_law_2423 ?_
  refine z_callV C (mX6_restore_no l D κ Ad eo ip w σ aw (hiF h) (hiF s2) ot M x hv.1 hx) gL_law_X6_restore rfl rfl rfl hdX6_restore ⟨(Nat.le_of_ble_eq_true rfl), (Nat.le_of_ble_eq_true rfl)⟩ 0 rfl rfl _ (fun u2 => OUTW κ oa fo ++ (MW κ Ad eo ip (upN w 1 1) σ aw (hiF h) (hiF s2) ot ++ (SW κ (AA 0) g ++ (RC ra (AA 0 0) (AA 1 0) (AA 2 0) la lb (AA 6 0) (AA 5 0) ++ (SW κ (AA 1) f ++ (HO κ (AA 2) hf nx ct ++ (hW κ Hs gh 10 ++ (SW κ (AA 3) g1 ++ (SO la (AA 3 0) f1 ++ (SW κ (AA 4) g2 ++ (SO lb (AA 4 0) f2 ++ (OW κ (AA 5) no ot ++ (SW κ (AA 7) gp ++ PW κ (AA 6) (AA 7) eo v tx))))))))))))) pmM (fun u2 => pmM.symm) rfl (Nat.le_of_ble_eq_true rfl) dL_law_2424 ⟨by show _ ≤ 601024; omega, by show _ ≤ 7293034; omega⟩ (fun u2 hu2 => ?_)
  refine z_istore C [(6, .int ((nI 0))), (5, .int (nI 1)), (0, .ref (sc)), (1, .ref (ra)), (2, .ref (Ad 0)), (3, .ref (oa)), (4, .int (nI i))] dL_law_2427 (by decide) rfl ?_
  refine z_aload_n C dL_law_2429 4 rfl ?_
  refine z_callV C (mX6_thrown l D κ Ad eo ip (upN w 1 1) σ aw (hiF h) (hiF s2) ot) gL_law_X6_thrown rfl rfl rfl hdX6_thrown ⟨(Nat.le_of_ble_eq_true rfl), (Nat.le_of_ble_eq_true rfl)⟩ 0 rfl rfl _ (fun _ => OUTW κ oa fo ++ (MW κ Ad eo ip (upN w 1 1) σ aw (hiF h) (hiF s2) ot ++ (SW κ (AA 0) g ++ (RC ra (AA 0 0) (AA 1 0) (AA 2 0) la lb (AA 6 0) (AA 5 0) ++ (SW κ (AA 1) f ++ (HO κ (AA 2) hf nx ct ++ (hW κ Hs gh 10 ++ (SW κ (AA 3) g1 ++ (SO la (AA 3 0) f1 ++ (SW κ (AA 4) g2 ++ (SO lb (AA 4 0) f2 ++ (OW κ (AA 5) no ot ++ (SW κ (AA 7) gp ++ PW κ (AA 6) (AA 7) eo v tx))))))))))))) pmM (fun _ => pmM.symm) rfl (Nat.le_of_ble_eq_true rfl) dL_law_2430 ⟨by show _ ≤ 601024; omega, by show _ ≤ 7293034; omega⟩ (fun _ _ => ?_)
  refine z_iload C dL_law_2433 1 rfl ?_
  refine z_icmpE C 2440 rfl dL_law_2435 (by decide) ?_
  refine z_iload C dL_law_2440 1 rfl ?_
  refine z_if_ne C 2457 dL_law_2442 (by decide) (fun _ => ?_) (fun q => absurd q (by decide))
  refine z_goto (tgt := 2685) C dL_law_2457 (by decide) ?_
  refine z_lv [2, 3, 4, 5, 6] rfl ?_
  exact K fo g f g1 g2 gp gh nx ct f1 f2 no ot eo v tx ip (upN w 1 1) σ aw h s2 (cells + 1) (slots + 6) (by omega) (by omega) ((H.mono (by omega) (by omega)).w1 _)
set_option maxRecDepth 100000 in
set_option maxHeartbeats 8000000 in
theorem lc_48_emp0 (C : zC p s m args c cL_law 9 wsL_law RL D (zTy κ) A) (hXc : aX adK adV A s s.heap) (hls : l.stackTraces = false) (hX : va_X sc L xs s s.heap) (hb0 : sc < s.heap.size) (hA0 : ¬ A sc) (hhf : ∀ j, j < 10 → hf j = some (Hs j 0)) (hi6 : i + 6 ≤ L) (hL : L ≤ 3072) (hcr : cells + 1 ≤ 601024 ∧ slots + 6 ≤ 7293034) (H : LI M g g1 g2 gh nx ct f1 f2 no v tx ip w σ h s2) (hM1 : 700000 ≤ M) (hM : M ≤ 1400000) (K : LGO p l e s m args below meth c D A Q sc κ ra la lb oa Ad AA Hs hf 2685 (M + 1200) i (cells + 1) (slots + 6))  (hf19 : f1 = 0) (hx19 : xs (i + 1) = nI 0) : zW p l e RML s m args below meth c 9 D A cells slots Q (LAWW κ ra la lb oa Ad AA Hs hf fo g f g1 g2 gp gh nx ct f1 f2 no ot eo v tx ip w σ aw h s2) [(0, .ref (sc)), (1, .ref (ra)), (2, .ref (Ad 0)), (3, .ref (oa)), (4, .int (nI i))] 2404 [] := by
  subst hf19
  obtain ⟨hr, hv, ht0⟩ := id H.1
  obtain ⟨hnx, hct, h5, -⟩ := id H.2.1
  obtain ⟨q1, q2, h7, -, -⟩ := id H.2.2.1
  obtain ⟨v1, hw9, v2, ht⟩ := id H.2.2.2.1
  obtain ⟨hno, hn64⟩ := id H.2.2.2.2
  have n1 := hv.n1
  have n2 := hv.n2
  refine z_aload_n C dL_law_2404 1 rfl ?_
  refine z_aload_n C dL_law_2405 0 rfl ?_
  refine z_iload C dL_law_2406 4 rfl ?_
  refine z_iconst (v := nI 1) C dL_law_2408 (by decide) ?_
  refine zn_iadd C dL_law_2409 ?_
  refine z_sld C hX hb0 hA0 (i := i + 1) (by omega) (by omega) hx19 dL_law_2410 ?_
  refine z_aload_n C dL_law_2411 3 rfl ?_
  refine zh_callS C (aX_ok adK adV) hXc (mL_restore_emp l D κ adK adV ra (AA 0 0) (AA 1 0) (AA 2 0) la lb (AA 6 0) (AA 5 0) (AA 3 0) 0 hls (by decide) oa fo) gL_law_L_restore rfl rfl rfl hdL_restore ⟨(Nat.le_of_ble_eq_true rfl), (Nat.le_of_ble_eq_true rfl)⟩ _ (fun u1 => OUTW κ oa fo ++ (MW κ Ad eo ip w σ aw (hiF h) (hiF s2) ot ++ (SW κ (AA 0) g ++ (RC ra (AA 0 0) (AA 1 0) (AA 2 0) la lb (AA 6 0) (AA 5 0) ++ (SW κ (AA 1) f ++ (HO κ (AA 2) hf nx ct ++ (hW κ Hs gh 10 ++ (SW κ (AA 3) g1 ++ (SO la (AA 3 0) 0 ++ (SW κ (AA 4) g2 ++ (SO lb (AA 4 0) f2 ++ (OW κ (AA 5) no ot ++ (SW κ (AA 7) gp ++ PW κ (AA 6) (AA 7) eo v tx))))))))))))) pmH_ea (fun u1 => pmH_ea.symm) rfl (Nat.le_of_ble_eq_true rfl) dL_law_2412 ⟨by show _ ≤ 601024; omega, by show _ ≤ 7293034; omega⟩ (fun u1 hu1 => ?_)
  refine z_istore C [(5, .int (nI 2)), (0, .ref (sc)), (1, .ref (ra)), (2, .ref (Ad 0)), (3, .ref (oa)), (4, .int (nI i))] dL_law_2415 (by decide) rfl ?_
  refine z_aload_n C dL_law_2417 3 rfl ?_
  refine z_aload_n C dL_law_2418 1 rfl ?_
  refine z_iload C dL_law_2419 5 rfl ?_
  refine z_iconst (v := nI 1) C dL_law_2421 (by decide) ?_
  refine zn_iadd C dL_law_2422 ?_
  refine z_sld C hX hb0 hA0 (i := i + 1) (by omega) (by omega) hx19 dL_law_2423 ?_
  refine z_callV C (mX6_restore_emp l D κ Ad eo ip w σ aw (hiF h) (hiF s2) ot M 0 hv.1 (by first | assumption | omega) (by omega) (by rw [h7]; simp only [show (2:Nat)^0 = 1 from rfl, show (2:Nat)^1 = 2 from rfl]; omega)) gL_law_X6_restore rfl rfl rfl hdX6_restore ⟨(Nat.le_of_ble_eq_true rfl), (Nat.le_of_ble_eq_true rfl)⟩ 0 rfl rfl _ (fun u2 => OUTW κ oa fo ++ (MW κ Ad eo ip (upN w 1 2) σ aw (hiF h) (hiF s2) ot ++ (SW κ (AA 0) g ++ (RC ra (AA 0 0) (AA 1 0) (AA 2 0) la lb (AA 6 0) (AA 5 0) ++ (SW κ (AA 1) f ++ (HO κ (AA 2) hf nx ct ++ (hW κ Hs gh 10 ++ (SW κ (AA 3) g1 ++ (SO la (AA 3 0) 0 ++ (SW κ (AA 4) g2 ++ (SO lb (AA 4 0) f2 ++ (OW κ (AA 5) no ot ++ (SW κ (AA 7) gp ++ PW κ (AA 6) (AA 7) eo v tx))))))))))))) pmM (fun u2 => pmM.symm) rfl (Nat.le_of_ble_eq_true rfl) dL_law_2424 ⟨by show _ ≤ 601024; omega, by show _ ≤ 7293034; omega⟩ (fun u2 hu2 => ?_)
  refine z_istore C [(6, .int ((nI 0))), (5, .int (nI 2)), (0, .ref (sc)), (1, .ref (ra)), (2, .ref (Ad 0)), (3, .ref (oa)), (4, .int (nI i))] dL_law_2427 (by decide) rfl ?_
  refine z_aload_n C dL_law_2429 4 rfl ?_
  refine z_callV C (mX6_thrown l D κ Ad eo ip (upN w 1 2) σ aw (hiF h) (hiF s2) ot) gL_law_X6_thrown rfl rfl rfl hdX6_thrown ⟨(Nat.le_of_ble_eq_true rfl), (Nat.le_of_ble_eq_true rfl)⟩ 0 rfl rfl _ (fun _ => OUTW κ oa fo ++ (MW κ Ad eo ip (upN w 1 2) σ aw (hiF h) (hiF s2) ot ++ (SW κ (AA 0) g ++ (RC ra (AA 0 0) (AA 1 0) (AA 2 0) la lb (AA 6 0) (AA 5 0) ++ (SW κ (AA 1) f ++ (HO κ (AA 2) hf nx ct ++ (hW κ Hs gh 10 ++ (SW κ (AA 3) g1 ++ (SO la (AA 3 0) 0 ++ (SW κ (AA 4) g2 ++ (SO lb (AA 4 0) f2 ++ (OW κ (AA 5) no ot ++ (SW κ (AA 7) gp ++ PW κ (AA 6) (AA 7) eo v tx))))))))))))) pmM (fun _ => pmM.symm) rfl (Nat.le_of_ble_eq_true rfl) dL_law_2430 ⟨by show _ ≤ 601024; omega, by show _ ≤ 7293034; omega⟩ (fun _ _ => ?_)
  refine z_iload C dL_law_2433 1 rfl ?_
  refine z_icmpE C 2440 rfl dL_law_2435 (by decide) ?_
  refine z_iload C dL_law_2440 1 rfl ?_
  refine z_if_ne C 2457 dL_law_2442 (by decide) (fun _ => ?_) (fun q => absurd q (by decide))
  refine z_goto (tgt := 2685) C dL_law_2457 (by decide) ?_
  refine z_lv [2, 3, 4, 5, 6] rfl ?_
  exact K fo g f g1 g2 gp gh nx ct 0 f2 no ot eo v tx ip (upN w 1 2) σ aw h s2 (cells + 1) (slots + 6) (by omega) (by omega) ((H.mono (by omega) (by omega)).w1 _)
set_option maxRecDepth 100000 in
set_option maxHeartbeats 8000000 in
theorem lc_48_emp1 (C : zC p s m args c cL_law 9 wsL_law RL D (zTy κ) A) (hXc : aX adK adV A s s.heap) (hls : l.stackTraces = false) (hX : va_X sc L xs s s.heap) (hb0 : sc < s.heap.size) (hA0 : ¬ A sc) (hhf : ∀ j, j < 10 → hf j = some (Hs j 0)) (hi6 : i + 6 ≤ L) (hL : L ≤ 3072) (hcr : cells + 1 ≤ 601024 ∧ slots + 6 ≤ 7293034) (H : LI M g g1 g2 gh nx ct f1 f2 no v tx ip w σ h s2) (hM1 : 700000 ≤ M) (hM : M ≤ 1400000) (K : LGO p l e s m args below meth c D A Q sc κ ra la lb oa Ad AA Hs hf 2685 (M + 1200) i (cells + 1) (slots + 6))  (hf29 : f2 = 0) (hx19 : xs (i + 1) = nI 1) : zW p l e RML s m args below meth c 9 D A cells slots Q (LAWW κ ra la lb oa Ad AA Hs hf fo g f g1 g2 gp gh nx ct f1 f2 no ot eo v tx ip w σ aw h s2) [(0, .ref (sc)), (1, .ref (ra)), (2, .ref (Ad 0)), (3, .ref (oa)), (4, .int (nI i))] 2404 [] := by
  subst hf29
  obtain ⟨hr, hv, ht0⟩ := id H.1
  obtain ⟨hnx, hct, h5, -⟩ := id H.2.1
  obtain ⟨q1, q2, h7, -, -⟩ := id H.2.2.1
  obtain ⟨v1, hw9, v2, ht⟩ := id H.2.2.2.1
  obtain ⟨hno, hn64⟩ := id H.2.2.2.2
  have n1 := hv.n1
  have n2 := hv.n2
  refine z_aload_n C dL_law_2404 1 rfl ?_
  refine z_aload_n C dL_law_2405 0 rfl ?_
  refine z_iload C dL_law_2406 4 rfl ?_
  refine z_iconst (v := nI 1) C dL_law_2408 (by decide) ?_
  refine zn_iadd C dL_law_2409 ?_
  refine z_sld C hX hb0 hA0 (i := i + 1) (by omega) (by omega) hx19 dL_law_2410 ?_
  refine z_aload_n C dL_law_2411 3 rfl ?_
  refine zh_callS C (aX_ok adK adV) hXc (mL_restore_emp l D κ adK adV ra (AA 0 0) (AA 1 0) (AA 2 0) la lb (AA 6 0) (AA 5 0) (AA 4 0) 1 hls (by decide) oa fo) gL_law_L_restore rfl rfl rfl hdL_restore ⟨(Nat.le_of_ble_eq_true rfl), (Nat.le_of_ble_eq_true rfl)⟩ _ (fun u1 => OUTW κ oa fo ++ (MW κ Ad eo ip w σ aw (hiF h) (hiF s2) ot ++ (SW κ (AA 0) g ++ (RC ra (AA 0 0) (AA 1 0) (AA 2 0) la lb (AA 6 0) (AA 5 0) ++ (SW κ (AA 1) f ++ (HO κ (AA 2) hf nx ct ++ (hW κ Hs gh 10 ++ (SW κ (AA 3) g1 ++ (SO la (AA 3 0) f1 ++ (SW κ (AA 4) g2 ++ (SO lb (AA 4 0) 0 ++ (OW κ (AA 5) no ot ++ (SW κ (AA 7) gp ++ PW κ (AA 6) (AA 7) eo v tx))))))))))))) pmH_eb (fun u1 => pmH_eb.symm) rfl (Nat.le_of_ble_eq_true rfl) dL_law_2412 ⟨by show _ ≤ 601024; omega, by show _ ≤ 7293034; omega⟩ (fun u1 hu1 => ?_)
  refine z_istore C [(5, .int (nI 2)), (0, .ref (sc)), (1, .ref (ra)), (2, .ref (Ad 0)), (3, .ref (oa)), (4, .int (nI i))] dL_law_2415 (by decide) rfl ?_
  refine z_aload_n C dL_law_2417 3 rfl ?_
  refine z_aload_n C dL_law_2418 1 rfl ?_
  refine z_iload C dL_law_2419 5 rfl ?_
  refine z_iconst (v := nI 1) C dL_law_2421 (by decide) ?_
  refine zn_iadd C dL_law_2422 ?_
  refine z_sld C hX hb0 hA0 (i := i + 1) (by omega) (by omega) hx19 dL_law_2423 ?_
  refine z_callV C (mX6_restore_emp l D κ Ad eo ip w σ aw (hiF h) (hiF s2) ot M 1 hv.1 (by first | assumption | omega) (by omega) (by rw [h7]; simp only [show (2:Nat)^0 = 1 from rfl, show (2:Nat)^1 = 2 from rfl]; omega)) gL_law_X6_restore rfl rfl rfl hdX6_restore ⟨(Nat.le_of_ble_eq_true rfl), (Nat.le_of_ble_eq_true rfl)⟩ 0 rfl rfl _ (fun u2 => OUTW κ oa fo ++ (MW κ Ad eo ip (upN w 1 2) σ aw (hiF h) (hiF s2) ot ++ (SW κ (AA 0) g ++ (RC ra (AA 0 0) (AA 1 0) (AA 2 0) la lb (AA 6 0) (AA 5 0) ++ (SW κ (AA 1) f ++ (HO κ (AA 2) hf nx ct ++ (hW κ Hs gh 10 ++ (SW κ (AA 3) g1 ++ (SO la (AA 3 0) f1 ++ (SW κ (AA 4) g2 ++ (SO lb (AA 4 0) 0 ++ (OW κ (AA 5) no ot ++ (SW κ (AA 7) gp ++ PW κ (AA 6) (AA 7) eo v tx))))))))))))) pmM (fun u2 => pmM.symm) rfl (Nat.le_of_ble_eq_true rfl) dL_law_2424 ⟨by show _ ≤ 601024; omega, by show _ ≤ 7293034; omega⟩ (fun u2 hu2 => ?_)
  refine z_istore C [(6, .int ((nI 0))), (5, .int (nI 2)), (0, .ref (sc)), (1, .ref (ra)), (2, .ref (Ad 0)), (3, .ref (oa)), (4, .int (nI i))] dL_law_2427 (by decide) rfl ?_
  refine z_aload_n C dL_law_2429 4 rfl ?_
  refine z_callV C (mX6_thrown l D κ Ad eo ip (upN w 1 2) σ aw (hiF h) (hiF s2) ot) gL_law_X6_thrown rfl rfl rfl hdX6_thrown ⟨(Nat.le_of_ble_eq_true rfl), (Nat.le_of_ble_eq_true rfl)⟩ 0 rfl rfl _ (fun _ => OUTW κ oa fo ++ (MW κ Ad eo ip (upN w 1 2) σ aw (hiF h) (hiF s2) ot ++ (SW κ (AA 0) g ++ (RC ra (AA 0 0) (AA 1 0) (AA 2 0) la lb (AA 6 0) (AA 5 0) ++ (SW κ (AA 1) f ++ (HO κ (AA 2) hf nx ct ++ (hW κ Hs gh 10 ++ (SW κ (AA 3) g1 ++ (SO la (AA 3 0) f1 ++ (SW κ (AA 4) g2 ++ (SO lb (AA 4 0) 0 ++ (OW κ (AA 5) no ot ++ (SW κ (AA 7) gp ++ PW κ (AA 6) (AA 7) eo v tx))))))))))))) pmM (fun _ => pmM.symm) rfl (Nat.le_of_ble_eq_true rfl) dL_law_2430 ⟨by show _ ≤ 601024; omega, by show _ ≤ 7293034; omega⟩ (fun _ _ => ?_)
  refine z_iload C dL_law_2433 1 rfl ?_
  refine z_icmpE C 2440 rfl dL_law_2435 (by decide) ?_
  refine z_iload C dL_law_2440 1 rfl ?_
  refine z_if_ne C 2457 dL_law_2442 (by decide) (fun _ => ?_) (fun q => absurd q (by decide))
  refine z_goto (tgt := 2685) C dL_law_2457 (by decide) ?_
  refine z_lv [2, 3, 4, 5, 6] rfl ?_
  exact K fo g f g1 g2 gp gh nx ct f1 0 no ot eo v tx ip (upN w 1 2) σ aw h s2 (cells + 1) (slots + 6) (by omega) (by omega) ((H.mono (by omega) (by omega)).w1 _)
set_option maxRecDepth 100000 in
set_option maxHeartbeats 8000000 in
theorem lc_49_ok (C : zC p s m args c cL_law 9 wsL_law RL D (zTy κ) A) (hXc : aX adK adV A s s.heap) (hls : l.stackTraces = false) (hX : va_X sc L xs s s.heap) (hb0 : sc < s.heap.size) (hA0 : ¬ A sc) (hhf : ∀ j, j < 10 → hf j = some (Hs j 0)) (hi6 : i + 6 ≤ L) (hL : L ≤ 3072) (hcr : cells + 1 ≤ 601024 ∧ slots + 6 ≤ 7293034) (H : LI M g g1 g2 gh nx ct f1 f2 no v tx ip w σ h s2) (hM1 : 700000 ≤ M) (hM : M ≤ 1400000) (K : LGO p l e s m args below meth c D A Q sc κ ra la lb oa Ad AA Hs hf 2685 (M + 1200) i (cells + 1) (slots + 6))  (hc1 : 1 ≤ ct) : zW p l e RML s m args below meth c 9 D A cells slots Q (LAWW κ ra la lb oa Ad AA Hs hf fo g f g1 g2 gp gh nx ct f1 f2 no ot eo v tx ip w σ aw h s2) [(0, .ref (sc)), (1, .ref (ra)), (2, .ref (Ad 0)), (3, .ref (oa)), (4, .int (nI i))] 2460 [] := by
  obtain ⟨hr, hv, ht0⟩ := id H.1
  obtain ⟨hnx, hct, h5, -⟩ := id H.2.1
  obtain ⟨q1, q2, h7, -, -⟩ := id H.2.2.1
  obtain ⟨v1, hw9, v2, ht⟩ := id H.2.2.2.1
  obtain ⟨hno, hn64⟩ := id H.2.2.2.2
  have n1 := hv.n1
  have n2 := hv.n2
  refine z_aload_n C dL_law_2460 1 rfl ?_
  refine z_aload_n C dL_law_2461 3 rfl ?_
  refine zh_callS C (aX_ok adK adV) hXc (mL_undo_ok l D κ (AA 0) (AA 2) Hs hf ra (AA 1 0) la lb (AA 6 0) (AA 5 0) g nx ct gh M (h (ct - 1)) hhf hnx hct hc1 (H.top hc1).1 (H.top hc1).2 adK adV oa fo) gL_law_L_undo rfl rfl rfl hdL_undo ⟨(Nat.le_of_ble_eq_true rfl), (Nat.le_of_ble_eq_true rfl)⟩ _ (fun u1 => OUTW κ oa (vp_updL fo 0 (((nI (ct - 1))).toInt64)) ++ (MW κ Ad eo ip w σ aw (hiF h) (hiF s2) ot ++ (SW κ (AA 0) u1 ++ (RC ra (AA 0 0) (AA 1 0) (AA 2 0) la lb (AA 6 0) (AA 5 0) ++ (SW κ (AA 1) f ++ (HO κ (AA 2) hf (bkN nx) (ct - 1) ++ (hW κ Hs gh 10 ++ (SW κ (AA 3) g1 ++ (SO la (AA 3 0) f1 ++ (SW κ (AA 4) g2 ++ (SO lb (AA 4 0) f2 ++ (OW κ (AA 5) no ot ++ (SW κ (AA 7) gp ++ PW κ (AA 6) (AA 7) eo v tx))))))))))))) pmH_k (fun u1 => pmH_k.symm) rfl (Nat.le_of_ble_eq_true rfl) dL_law_2462 ⟨by show _ ≤ 601024; omega, by show _ ≤ 7293034; omega⟩ (fun u1 hu1 => ?_)
  refine z_istore C [(5, .int (nI 0)), (0, .ref (sc)), (1, .ref (ra)), (2, .ref (Ad 0)), (3, .ref (oa)), (4, .int (nI i))] dL_law_2465 (by decide) rfl ?_
  refine z_aload_n C dL_law_2467 3 rfl ?_
  refine z_callV C (mX6_undo_ok l D κ Ad eo ip w σ aw (hiF h) (hiF s2) ot M h hv.1 (by first | assumption | omega) (by first | assumption | omega)) gL_law_X6_undo rfl rfl rfl hdX6_undo ⟨(Nat.le_of_ble_eq_true rfl), (Nat.le_of_ble_eq_true rfl)⟩ 0 rfl rfl _ (fun u2 => OUTW κ oa (vp_updL fo 0 (((nI (ct - 1))).toInt64)) ++ (MW κ Ad eo ip (upN (upN w 5 (w 5 - 1)) 1 0) (h (w 5 - 1)) aw (hiF h) (hiF s2) ot ++ (SW κ (AA 0) u1 ++ (RC ra (AA 0 0) (AA 1 0) (AA 2 0) la lb (AA 6 0) (AA 5 0) ++ (SW κ (AA 1) f ++ (HO κ (AA 2) hf (bkN nx) (ct - 1) ++ (hW κ Hs gh 10 ++ (SW κ (AA 3) g1 ++ (SO la (AA 3 0) f1 ++ (SW κ (AA 4) g2 ++ (SO lb (AA 4 0) f2 ++ (OW κ (AA 5) no ot ++ (SW κ (AA 7) gp ++ PW κ (AA 6) (AA 7) eo v tx))))))))))))) pmM (fun u2 => pmM.symm) rfl (Nat.le_of_ble_eq_true rfl) dL_law_2468 ⟨by show _ ≤ 601024; omega, by show _ ≤ 7293034; omega⟩ (fun u2 hu2 => ?_)
  refine z_istore C [(6, .int ((nI (w 5 - 1)))), (5, .int (nI 0)), (0, .ref (sc)), (1, .ref (ra)), (2, .ref (Ad 0)), (3, .ref (oa)), (4, .int (nI i))] dL_law_2471 (by decide) rfl ?_
  refine z_aload_n C dL_law_2473 4 rfl ?_
  refine z_callV C (mX6_thrown l D κ Ad eo ip (upN (upN w 5 (w 5 - 1)) 1 0) (h (w 5 - 1)) aw (hiF h) (hiF s2) ot) gL_law_X6_thrown rfl rfl rfl hdX6_thrown ⟨(Nat.le_of_ble_eq_true rfl), (Nat.le_of_ble_eq_true rfl)⟩ 0 rfl rfl _ (fun _ => OUTW κ oa (vp_updL fo 0 (((nI (ct - 1))).toInt64)) ++ (MW κ Ad eo ip (upN (upN w 5 (w 5 - 1)) 1 0) (h (w 5 - 1)) aw (hiF h) (hiF s2) ot ++ (SW κ (AA 0) u1 ++ (RC ra (AA 0 0) (AA 1 0) (AA 2 0) la lb (AA 6 0) (AA 5 0) ++ (SW κ (AA 1) f ++ (HO κ (AA 2) hf (bkN nx) (ct - 1) ++ (hW κ Hs gh 10 ++ (SW κ (AA 3) g1 ++ (SO la (AA 3 0) f1 ++ (SW κ (AA 4) g2 ++ (SO lb (AA 4 0) f2 ++ (OW κ (AA 5) no ot ++ (SW κ (AA 7) gp ++ PW κ (AA 6) (AA 7) eo v tx))))))))))))) pmM (fun _ => pmM.symm) rfl (Nat.le_of_ble_eq_true rfl) dL_law_2474 ⟨by show _ ≤ 601024; omega, by show _ ≤ 7293034; omega⟩ (fun _ _ => ?_)
  refine z_iload C dL_law_2477 1 rfl ?_
  refine z_icmpE C 2484 rfl dL_law_2479 (by decide) ?_
  refine z_iload C dL_law_2484 1 rfl ?_
  refine z_if_ne C 2501 dL_law_2486 (by decide) (fun q => absurd (by decide) q) (fun _ => ?_)
  refine z_aload_n C dL_law_2489 5 rfl ?_
  refine z_iconst (v := nI 0) C dL_law_2490 (by decide) ?_
  refine z_lald C 0 4 rfl rfl (i := 0) (by decide) (by decide) dL_law_2491 ?_
  refine z_iload C dL_law_2492 0 rfl ?_
  refine z_i2l C dL_law_2494 rfl ?_
  refine z_lcmpE C (updL_0.trans (by rw [h5])) dL_law_2495 ?_
  refine z_if_eq C 2501 dL_law_2496 (by decide) (fun _ => ?_) (fun q => absurd (by decide) q)
  refine z_goto (tgt := 2685) C dL_law_2501 (by decide) ?_
  refine z_lv [2, 3, 4, 5, 6] rfl ?_
  exact K (vp_updL fo 0 (((nI (ct - 1))).toInt64)) u1 f g1 g2 gp gh (bkN nx) (ct - 1) f1 f2 no ot eo v tx ip (upN (upN w 5 (w 5 - 1)) 1 0) (h (w 5 - 1)) aw h s2 cells slots (by omega) (by omega) (H.undo (by omega) (by omega) hc1 hu1)
set_option maxRecDepth 100000 in
set_option maxHeartbeats 8000000 in
theorem lc_49_no (C : zC p s m args c cL_law 9 wsL_law RL D (zTy κ) A) (hXc : aX adK adV A s s.heap) (hls : l.stackTraces = false) (hX : va_X sc L xs s s.heap) (hb0 : sc < s.heap.size) (hA0 : ¬ A sc) (hhf : ∀ j, j < 10 → hf j = some (Hs j 0)) (hi6 : i + 6 ≤ L) (hL : L ≤ 3072) (hcr : cells + 1 ≤ 601024 ∧ slots + 6 ≤ 7293034) (H : LI M g g1 g2 gh nx ct f1 f2 no v tx ip w σ h s2) (hM1 : 700000 ≤ M) (hM : M ≤ 1400000) (K : LGO p l e s m args below meth c D A Q sc κ ra la lb oa Ad AA Hs hf 2685 (M + 1200) i (cells + 1) (slots + 6))  (hct9 : ct = 0) : zW p l e RML s m args below meth c 9 D A cells slots Q (LAWW κ ra la lb oa Ad AA Hs hf fo g f g1 g2 gp gh nx ct f1 f2 no ot eo v tx ip w σ aw h s2) [(0, .ref (sc)), (1, .ref (ra)), (2, .ref (Ad 0)), (3, .ref (oa)), (4, .int (nI i))] 2460 [] := by
  subst hct9
  obtain ⟨hr, hv, ht0⟩ := id H.1
  obtain ⟨hnx, hct, h5, -⟩ := id H.2.1
  obtain ⟨q1, q2, h7, -, -⟩ := id H.2.2.1
  obtain ⟨v1, hw9, v2, ht⟩ := id H.2.2.2.1
  obtain ⟨hno, hn64⟩ := id H.2.2.2.2
  have n1 := hv.n1
  have n2 := hv.n2
  refine z_aload_n C dL_law_2460 1 rfl ?_
  refine z_aload_n C dL_law_2461 3 rfl ?_
  refine zh_callS C (aX_ok adK adV) hXc (mL_undo_no l D κ adK adV ra (AA 0 0) (AA 1 0) la lb (AA 6 0) (AA 5 0) nx (AA 2) hf hls oa fo) gL_law_L_undo rfl rfl rfl hdL_undo ⟨(Nat.le_of_ble_eq_true rfl), (Nat.le_of_ble_eq_true rfl)⟩ _ (fun u1 => OUTW κ oa fo ++ (MW κ Ad eo ip w σ aw (hiF h) (hiF s2) ot ++ (SW κ (AA 0) g ++ (RC ra (AA 0 0) (AA 1 0) (AA 2 0) la lb (AA 6 0) (AA 5 0) ++ (SW κ (AA 1) f ++ (HO κ (AA 2) hf nx 0 ++ (hW κ Hs gh 10 ++ (SW κ (AA 3) g1 ++ (SO la (AA 3 0) f1 ++ (SW κ (AA 4) g2 ++ (SO lb (AA 4 0) f2 ++ (OW κ (AA 5) no ot ++ (SW κ (AA 7) gp ++ PW κ (AA 6) (AA 7) eo v tx))))))))))))) pmH_u (fun u1 => pmH_u.symm) rfl (Nat.le_of_ble_eq_true rfl) dL_law_2462 ⟨by show _ ≤ 601024; omega, by show _ ≤ 7293034; omega⟩ (fun u1 hu1 => ?_)
  refine z_istore C [(5, .int (nI 1)), (0, .ref (sc)), (1, .ref (ra)), (2, .ref (Ad 0)), (3, .ref (oa)), (4, .int (nI i))] dL_law_2465 (by decide) rfl ?_
  refine z_aload_n C dL_law_2467 3 rfl ?_
  refine z_callV C (mX6_undo_no l D κ Ad eo ip w σ aw (hiF h) (hiF s2) ot M hv.1 (by first | assumption | omega)) gL_law_X6_undo rfl rfl rfl hdX6_undo ⟨(Nat.le_of_ble_eq_true rfl), (Nat.le_of_ble_eq_true rfl)⟩ 0 rfl rfl _ (fun u2 => OUTW κ oa fo ++ (MW κ Ad eo ip (upN w 1 1) σ aw (hiF h) (hiF s2) ot ++ (SW κ (AA 0) g ++ (RC ra (AA 0 0) (AA 1 0) (AA 2 0) la lb (AA 6 0) (AA 5 0) ++ (SW κ (AA 1) f ++ (HO κ (AA 2) hf nx 0 ++ (hW κ Hs gh 10 ++ (SW κ (AA 3) g1 ++ (SO la (AA 3 0) f1 ++ (SW κ (AA 4) g2 ++ (SO lb (AA 4 0) f2 ++ (OW κ (AA 5) no ot ++ (SW κ (AA 7) gp ++ PW κ (AA 6) (AA 7) eo v tx))))))))))))) pmM (fun u2 => pmM.symm) rfl (Nat.le_of_ble_eq_true rfl) dL_law_2468 ⟨by show _ ≤ 601024; omega, by show _ ≤ 7293034; omega⟩ (fun u2 hu2 => ?_)
  refine z_istore C [(6, .int ((nI 0))), (5, .int (nI 1)), (0, .ref (sc)), (1, .ref (ra)), (2, .ref (Ad 0)), (3, .ref (oa)), (4, .int (nI i))] dL_law_2471 (by decide) rfl ?_
  refine z_aload_n C dL_law_2473 4 rfl ?_
  refine z_callV C (mX6_thrown l D κ Ad eo ip (upN w 1 1) σ aw (hiF h) (hiF s2) ot) gL_law_X6_thrown rfl rfl rfl hdX6_thrown ⟨(Nat.le_of_ble_eq_true rfl), (Nat.le_of_ble_eq_true rfl)⟩ 0 rfl rfl _ (fun _ => OUTW κ oa fo ++ (MW κ Ad eo ip (upN w 1 1) σ aw (hiF h) (hiF s2) ot ++ (SW κ (AA 0) g ++ (RC ra (AA 0 0) (AA 1 0) (AA 2 0) la lb (AA 6 0) (AA 5 0) ++ (SW κ (AA 1) f ++ (HO κ (AA 2) hf nx 0 ++ (hW κ Hs gh 10 ++ (SW κ (AA 3) g1 ++ (SO la (AA 3 0) f1 ++ (SW κ (AA 4) g2 ++ (SO lb (AA 4 0) f2 ++ (OW κ (AA 5) no ot ++ (SW κ (AA 7) gp ++ PW κ (AA 6) (AA 7) eo v tx))))))))))))) pmM (fun _ => pmM.symm) rfl (Nat.le_of_ble_eq_true rfl) dL_law_2474 ⟨by show _ ≤ 601024; omega, by show _ ≤ 7293034; omega⟩ (fun _ _ => ?_)
  refine z_iload C dL_law_2477 1 rfl ?_
  refine z_icmpE C 2484 rfl dL_law_2479 (by decide) ?_
  refine z_iload C dL_law_2484 1 rfl ?_
  refine z_if_ne C 2501 dL_law_2486 (by decide) (fun _ => ?_) (fun q => absurd q (by decide))
  refine z_goto (tgt := 2685) C dL_law_2501 (by decide) ?_
  refine z_lv [2, 3, 4, 5, 6] rfl ?_
  exact K fo g f g1 g2 gp gh nx 0 f1 f2 no ot eo v tx ip (upN w 1 1) σ aw h s2 (cells + 1) (slots + 6) (by omega) (by omega) ((H.mono (by omega) (by omega)).w1 _)
set_option maxRecDepth 100000 in
set_option maxHeartbeats 8000000 in
theorem lc_50_ok0 (C : zC p s m args c cL_law 9 wsL_law RL D (zTy κ) A) (hXc : aX adK adV A s s.heap) (hls : l.stackTraces = false) (hX : va_X sc L xs s s.heap) (hb0 : sc < s.heap.size) (hA0 : ¬ A sc) (hhf : ∀ j, j < 10 → hf j = some (Hs j 0)) (hi6 : i + 6 ≤ L) (hL : L ≤ 3072) (hcr : cells + 1 ≤ 601024 ∧ slots + 6 ≤ 7293034) (H : LI M g g1 g2 gh nx ct f1 f2 no v tx ip w σ h s2) (hM1 : 700000 ≤ M) (hM : M ≤ 1400000) (K : LGO p l e s m args below meth c D A Q sc κ ra la lb oa Ad AA Hs hf 2685 (M + 1200) i (cells + 1) (slots + 6))  (hx19 : xs (i + 1) = nI 0) : zW p l e RML s m args below meth c 9 D A cells slots Q (LAWW κ ra la lb oa Ad AA Hs hf fo g f g1 g2 gp gh nx ct f1 f2 no ot eo v tx ip w σ aw h s2) [(0, .ref (sc)), (1, .ref (ra)), (2, .ref (Ad 0)), (3, .ref (oa)), (4, .int (nI i))] 2504 [] := by
  obtain ⟨hr, hv, ht0⟩ := id H.1
  obtain ⟨hnx, hct, h5, -⟩ := id H.2.1
  obtain ⟨q1, q2, h7, -, -⟩ := id H.2.2.1
  obtain ⟨v1, hw9, v2, ht⟩ := id H.2.2.2.1
  obtain ⟨hno, hn64⟩ := id H.2.2.2.2
  have n1 := hv.n1
  have n2 := hv.n2
  refine z_aload_n C dL_law_2504 1 rfl ?_
  refine z_aload_n C dL_law_2505 0 rfl ?_
  refine z_iload C dL_law_2506 4 rfl ?_
  refine z_iconst (v := nI 1) C dL_law_2508 (by decide) ?_
  refine zn_iadd C dL_law_2509 ?_
  refine z_sld C hX hb0 hA0 (i := i + 1) (by omega) (by omega) hx19 dL_law_2510 ?_
  refine z_aload_n C dL_law_2511 3 rfl ?_
  refine zh_callS C (aX_ok adK adV) hXc (mL_save_ok l D κ (AA 0) g ra (AA 1 0) (AA 2 0) la lb (AA 6 0) (AA 5 0) σ M (AA 3) g1 f1 0 hr hv (by decide) adK adV oa fo) gL_law_L_save rfl rfl rfl hdL_save ⟨(Nat.le_of_ble_eq_true rfl), (Nat.le_of_ble_eq_true rfl)⟩ _ (fun u1 => OUTW κ oa (vp_updL fo 0 (((nI (σ 0))).toInt64)) ++ (MW κ Ad eo ip w σ aw (hiF h) (hiF s2) ot ++ (SW κ (AA 0) g ++ (RC ra (AA 0 0) (AA 1 0) (AA 2 0) la lb (AA 6 0) (AA 5 0) ++ (SW κ (AA 1) f ++ (HO κ (AA 2) hf nx ct ++ (hW κ Hs gh 10 ++ (SW κ (AA 3) u1 ++ (SO la (AA 3 0) 1 ++ (SW κ (AA 4) g2 ++ (SO lb (AA 4 0) f2 ++ (OW κ (AA 5) no ot ++ (SW κ (AA 7) gp ++ PW κ (AA 6) (AA 7) eo v tx))))))))))))) pmH_sa (fun u1 => pmH_sa.symm) rfl (Nat.le_of_ble_eq_true rfl) dL_law_2512 ⟨by show _ ≤ 601024; omega, by show _ ≤ 7293034; omega⟩ (fun u1 hu1 => ?_)
  refine z_istore C [(5, .int (nI 0)), (0, .ref (sc)), (1, .ref (ra)), (2, .ref (Ad 0)), (3, .ref (oa)), (4, .int (nI i))] dL_law_2515 (by decide) rfl ?_
  refine z_aload_n C dL_law_2517 3 rfl ?_
  refine z_aload_n C dL_law_2518 1 rfl ?_
  refine z_iload C dL_law_2519 5 rfl ?_
  refine z_iconst (v := nI 1) C dL_law_2521 (by decide) ?_
  refine zn_iadd C dL_law_2522 ?_
  refine z_sld C hX hb0 hA0 (i := i + 1) (by omega) (by omega) hx19 dL_law_2523 ?_
  refine z_callV C (mX6_save_ok l D κ Ad eo ip w σ aw (hiF h) (hiF s2) ot M s2 0 hv.1 (by first | assumption | omega) (by omega)) gL_law_X6_save rfl rfl rfl hdX6_save ⟨(Nat.le_of_ble_eq_true rfl), (Nat.le_of_ble_eq_true rfl)⟩ 0 rfl rfl _ (fun u2 => OUTW κ oa (vp_updL fo 0 (((nI (σ 0))).toInt64)) ++ (MW κ Ad eo ip (upN (upN w 7 (svO (w 7) 0)) 1 0) σ aw (hiF h) (hiF (svH s2 0 σ)) ot ++ (SW κ (AA 0) g ++ (RC ra (AA 0 0) (AA 1 0) (AA 2 0) la lb (AA 6 0) (AA 5 0) ++ (SW κ (AA 1) f ++ (HO κ (AA 2) hf nx ct ++ (hW κ Hs gh 10 ++ (SW κ (AA 3) u1 ++ (SO la (AA 3 0) 1 ++ (SW κ (AA 4) g2 ++ (SO lb (AA 4 0) f2 ++ (OW κ (AA 5) no ot ++ (SW κ (AA 7) gp ++ PW κ (AA 6) (AA 7) eo v tx))))))))))))) pmM (fun u2 => pmM.symm) rfl (Nat.le_of_ble_eq_true rfl) dL_law_2524 ⟨by show _ ≤ 601024; omega, by show _ ≤ 7293034; omega⟩ (fun u2 hu2 => ?_)
  refine z_istore C [(6, .int ((nI (σ 0)))), (5, .int (nI 0)), (0, .ref (sc)), (1, .ref (ra)), (2, .ref (Ad 0)), (3, .ref (oa)), (4, .int (nI i))] dL_law_2527 (by decide) rfl ?_
  refine z_aload_n C dL_law_2529 4 rfl ?_
  refine z_callV C (mX6_thrown l D κ Ad eo ip (upN (upN w 7 (svO (w 7) 0)) 1 0) σ aw (hiF h) (hiF (svH s2 0 σ)) ot) gL_law_X6_thrown rfl rfl rfl hdX6_thrown ⟨(Nat.le_of_ble_eq_true rfl), (Nat.le_of_ble_eq_true rfl)⟩ 0 rfl rfl _ (fun _ => OUTW κ oa (vp_updL fo 0 (((nI (σ 0))).toInt64)) ++ (MW κ Ad eo ip (upN (upN w 7 (svO (w 7) 0)) 1 0) σ aw (hiF h) (hiF (svH s2 0 σ)) ot ++ (SW κ (AA 0) g ++ (RC ra (AA 0 0) (AA 1 0) (AA 2 0) la lb (AA 6 0) (AA 5 0) ++ (SW κ (AA 1) f ++ (HO κ (AA 2) hf nx ct ++ (hW κ Hs gh 10 ++ (SW κ (AA 3) u1 ++ (SO la (AA 3 0) 1 ++ (SW κ (AA 4) g2 ++ (SO lb (AA 4 0) f2 ++ (OW κ (AA 5) no ot ++ (SW κ (AA 7) gp ++ PW κ (AA 6) (AA 7) eo v tx))))))))))))) pmM (fun _ => pmM.symm) rfl (Nat.le_of_ble_eq_true rfl) dL_law_2530 ⟨by show _ ≤ 601024; omega, by show _ ≤ 7293034; omega⟩ (fun _ _ => ?_)
  refine z_iload C dL_law_2533 1 rfl ?_
  refine z_icmpE C 2540 rfl dL_law_2535 (by decide) ?_
  refine z_iload C dL_law_2540 1 rfl ?_
  refine z_if_ne C 2557 dL_law_2542 (by decide) (fun q => absurd (by decide) q) (fun _ => ?_)
  refine z_aload_n C dL_law_2545 5 rfl ?_
  refine z_iconst (v := nI 0) C dL_law_2546 (by decide) ?_
  refine z_lald C 0 4 rfl rfl (i := 0) (by decide) (by decide) dL_law_2547 ?_
  refine z_iload C dL_law_2548 0 rfl ?_
  refine z_i2l C dL_law_2550 rfl ?_
  refine z_lcmpE C (updL_0) dL_law_2551 ?_
  refine z_if_eq C 2557 dL_law_2552 (by decide) (fun _ => ?_) (fun q => absurd (by decide) q)
  refine z_goto (tgt := 2685) C dL_law_2557 (by decide) ?_
  refine z_lv [2, 3, 4, 5, 6] rfl ?_
  exact K (vp_updL fo 0 (((nI (σ 0))).toInt64)) g f u1 g2 gp gh nx ct 1 f2 no ot eo v tx ip (upN (upN w 7 (svO (w 7) 0)) 1 0) σ aw h (svH s2 0 σ) cells slots (by omega) (by omega) (H.sav0 (by omega) (by omega) hu1)
set_option maxRecDepth 100000 in
set_option maxHeartbeats 8000000 in
theorem lc_50_ok1 (C : zC p s m args c cL_law 9 wsL_law RL D (zTy κ) A) (hXc : aX adK adV A s s.heap) (hls : l.stackTraces = false) (hX : va_X sc L xs s s.heap) (hb0 : sc < s.heap.size) (hA0 : ¬ A sc) (hhf : ∀ j, j < 10 → hf j = some (Hs j 0)) (hi6 : i + 6 ≤ L) (hL : L ≤ 3072) (hcr : cells + 1 ≤ 601024 ∧ slots + 6 ≤ 7293034) (H : LI M g g1 g2 gh nx ct f1 f2 no v tx ip w σ h s2) (hM1 : 700000 ≤ M) (hM : M ≤ 1400000) (K : LGO p l e s m args below meth c D A Q sc κ ra la lb oa Ad AA Hs hf 2685 (M + 1200) i (cells + 1) (slots + 6))  (hx19 : xs (i + 1) = nI 1) : zW p l e RML s m args below meth c 9 D A cells slots Q (LAWW κ ra la lb oa Ad AA Hs hf fo g f g1 g2 gp gh nx ct f1 f2 no ot eo v tx ip w σ aw h s2) [(0, .ref (sc)), (1, .ref (ra)), (2, .ref (Ad 0)), (3, .ref (oa)), (4, .int (nI i))] 2504 [] := by
  obtain ⟨hr, hv, ht0⟩ := id H.1
  obtain ⟨hnx, hct, h5, -⟩ := id H.2.1
  obtain ⟨q1, q2, h7, -, -⟩ := id H.2.2.1
  obtain ⟨v1, hw9, v2, ht⟩ := id H.2.2.2.1
  obtain ⟨hno, hn64⟩ := id H.2.2.2.2
  have n1 := hv.n1
  have n2 := hv.n2
  refine z_aload_n C dL_law_2504 1 rfl ?_
  refine z_aload_n C dL_law_2505 0 rfl ?_
  refine z_iload C dL_law_2506 4 rfl ?_
  refine z_iconst (v := nI 1) C dL_law_2508 (by decide) ?_
  refine zn_iadd C dL_law_2509 ?_
  refine z_sld C hX hb0 hA0 (i := i + 1) (by omega) (by omega) hx19 dL_law_2510 ?_
  refine z_aload_n C dL_law_2511 3 rfl ?_
  refine zh_callS C (aX_ok adK adV) hXc (mL_save_ok l D κ (AA 0) g ra (AA 1 0) (AA 2 0) la lb (AA 6 0) (AA 5 0) σ M (AA 4) g2 f2 1 hr hv (by decide) adK adV oa fo) gL_law_L_save rfl rfl rfl hdL_save ⟨(Nat.le_of_ble_eq_true rfl), (Nat.le_of_ble_eq_true rfl)⟩ _ (fun u1 => OUTW κ oa (vp_updL fo 0 (((nI (σ 0))).toInt64)) ++ (MW κ Ad eo ip w σ aw (hiF h) (hiF s2) ot ++ (SW κ (AA 0) g ++ (RC ra (AA 0 0) (AA 1 0) (AA 2 0) la lb (AA 6 0) (AA 5 0) ++ (SW κ (AA 1) f ++ (HO κ (AA 2) hf nx ct ++ (hW κ Hs gh 10 ++ (SW κ (AA 3) g1 ++ (SO la (AA 3 0) f1 ++ (SW κ (AA 4) u1 ++ (SO lb (AA 4 0) 1 ++ (OW κ (AA 5) no ot ++ (SW κ (AA 7) gp ++ PW κ (AA 6) (AA 7) eo v tx))))))))))))) pmH_sb (fun u1 => pmH_sb.symm) rfl (Nat.le_of_ble_eq_true rfl) dL_law_2512 ⟨by show _ ≤ 601024; omega, by show _ ≤ 7293034; omega⟩ (fun u1 hu1 => ?_)
  refine z_istore C [(5, .int (nI 0)), (0, .ref (sc)), (1, .ref (ra)), (2, .ref (Ad 0)), (3, .ref (oa)), (4, .int (nI i))] dL_law_2515 (by decide) rfl ?_
  refine z_aload_n C dL_law_2517 3 rfl ?_
  refine z_aload_n C dL_law_2518 1 rfl ?_
  refine z_iload C dL_law_2519 5 rfl ?_
  refine z_iconst (v := nI 1) C dL_law_2521 (by decide) ?_
  refine zn_iadd C dL_law_2522 ?_
  refine z_sld C hX hb0 hA0 (i := i + 1) (by omega) (by omega) hx19 dL_law_2523 ?_
  refine z_callV C (mX6_save_ok l D κ Ad eo ip w σ aw (hiF h) (hiF s2) ot M s2 1 hv.1 (by first | assumption | omega) (by omega)) gL_law_X6_save rfl rfl rfl hdX6_save ⟨(Nat.le_of_ble_eq_true rfl), (Nat.le_of_ble_eq_true rfl)⟩ 0 rfl rfl _ (fun u2 => OUTW κ oa (vp_updL fo 0 (((nI (σ 0))).toInt64)) ++ (MW κ Ad eo ip (upN (upN w 7 (svO (w 7) 1)) 1 0) σ aw (hiF h) (hiF (svH s2 1 σ)) ot ++ (SW κ (AA 0) g ++ (RC ra (AA 0 0) (AA 1 0) (AA 2 0) la lb (AA 6 0) (AA 5 0) ++ (SW κ (AA 1) f ++ (HO κ (AA 2) hf nx ct ++ (hW κ Hs gh 10 ++ (SW κ (AA 3) g1 ++ (SO la (AA 3 0) f1 ++ (SW κ (AA 4) u1 ++ (SO lb (AA 4 0) 1 ++ (OW κ (AA 5) no ot ++ (SW κ (AA 7) gp ++ PW κ (AA 6) (AA 7) eo v tx))))))))))))) pmM (fun u2 => pmM.symm) rfl (Nat.le_of_ble_eq_true rfl) dL_law_2524 ⟨by show _ ≤ 601024; omega, by show _ ≤ 7293034; omega⟩ (fun u2 hu2 => ?_)
  refine z_istore C [(6, .int ((nI (σ 0)))), (5, .int (nI 0)), (0, .ref (sc)), (1, .ref (ra)), (2, .ref (Ad 0)), (3, .ref (oa)), (4, .int (nI i))] dL_law_2527 (by decide) rfl ?_
  refine z_aload_n C dL_law_2529 4 rfl ?_
  refine z_callV C (mX6_thrown l D κ Ad eo ip (upN (upN w 7 (svO (w 7) 1)) 1 0) σ aw (hiF h) (hiF (svH s2 1 σ)) ot) gL_law_X6_thrown rfl rfl rfl hdX6_thrown ⟨(Nat.le_of_ble_eq_true rfl), (Nat.le_of_ble_eq_true rfl)⟩ 0 rfl rfl _ (fun _ => OUTW κ oa (vp_updL fo 0 (((nI (σ 0))).toInt64)) ++ (MW κ Ad eo ip (upN (upN w 7 (svO (w 7) 1)) 1 0) σ aw (hiF h) (hiF (svH s2 1 σ)) ot ++ (SW κ (AA 0) g ++ (RC ra (AA 0 0) (AA 1 0) (AA 2 0) la lb (AA 6 0) (AA 5 0) ++ (SW κ (AA 1) f ++ (HO κ (AA 2) hf nx ct ++ (hW κ Hs gh 10 ++ (SW κ (AA 3) g1 ++ (SO la (AA 3 0) f1 ++ (SW κ (AA 4) u1 ++ (SO lb (AA 4 0) 1 ++ (OW κ (AA 5) no ot ++ (SW κ (AA 7) gp ++ PW κ (AA 6) (AA 7) eo v tx))))))))))))) pmM (fun _ => pmM.symm) rfl (Nat.le_of_ble_eq_true rfl) dL_law_2530 ⟨by show _ ≤ 601024; omega, by show _ ≤ 7293034; omega⟩ (fun _ _ => ?_)
  refine z_iload C dL_law_2533 1 rfl ?_
  refine z_icmpE C 2540 rfl dL_law_2535 (by decide) ?_
  refine z_iload C dL_law_2540 1 rfl ?_
  refine z_if_ne C 2557 dL_law_2542 (by decide) (fun q => absurd (by decide) q) (fun _ => ?_)
  refine z_aload_n C dL_law_2545 5 rfl ?_
  refine z_iconst (v := nI 0) C dL_law_2546 (by decide) ?_
  refine z_lald C 0 4 rfl rfl (i := 0) (by decide) (by decide) dL_law_2547 ?_
  refine z_iload C dL_law_2548 0 rfl ?_
  refine z_i2l C dL_law_2550 rfl ?_
  refine z_lcmpE C (updL_0) dL_law_2551 ?_
  refine z_if_eq C 2557 dL_law_2552 (by decide) (fun _ => ?_) (fun q => absurd (by decide) q)
  refine z_goto (tgt := 2685) C dL_law_2557 (by decide) ?_
  refine z_lv [2, 3, 4, 5, 6] rfl ?_
  exact K (vp_updL fo 0 (((nI (σ 0))).toInt64)) g f g1 u1 gp gh nx ct f1 1 no ot eo v tx ip (upN (upN w 7 (svO (w 7) 1)) 1 0) σ aw h (svH s2 1 σ) cells slots (by omega) (by omega) (H.sav1 (by omega) (by omega) hu1)
set_option maxRecDepth 100000 in
set_option maxHeartbeats 8000000 in
theorem lc_50_no (C : zC p s m args c cL_law 9 wsL_law RL D (zTy κ) A) (hXc : aX adK adV A s s.heap) (hls : l.stackTraces = false) (hX : va_X sc L xs s s.heap) (hb0 : sc < s.heap.size) (hA0 : ¬ A sc) (hhf : ∀ j, j < 10 → hf j = some (Hs j 0)) (hi6 : i + 6 ≤ L) (hL : L ≤ 3072) (hcr : cells + 1 ≤ 601024 ∧ slots + 6 ≤ 7293034) (H : LI M g g1 g2 gh nx ct f1 f2 no v tx ip w σ h s2) (hM1 : 700000 ≤ M) (hM : M ≤ 1400000) (K : LGO p l e s m args below meth c D A Q sc κ ra la lb oa Ad AA Hs hf 2685 (M + 1200) i (cells + 1) (slots + 6)) (x : Int32) (hx : inI x (nI 0) (nI 1) = false) (hx19 : xs (i + 1) = x) : zW p l e RML s m args below meth c 9 D A cells slots Q (LAWW κ ra la lb oa Ad AA Hs hf fo g f g1 g2 gp gh nx ct f1 f2 no ot eo v tx ip w σ aw h s2) [(0, .ref (sc)), (1, .ref (ra)), (2, .ref (Ad 0)), (3, .ref (oa)), (4, .int (nI i))] 2504 [] := by
  obtain ⟨hr, hv, ht0⟩ := id H.1
  obtain ⟨hnx, hct, h5, -⟩ := id H.2.1
  obtain ⟨q1, q2, h7, -, -⟩ := id H.2.2.1
  obtain ⟨v1, hw9, v2, ht⟩ := id H.2.2.2.1
  obtain ⟨hno, hn64⟩ := id H.2.2.2.2
  have n1 := hv.n1
  have n2 := hv.n2
  refine z_aload_n C dL_law_2504 1 rfl ?_
  refine z_aload_n C dL_law_2505 0 rfl ?_
  refine z_iload C dL_law_2506 4 rfl ?_
  refine z_iconst (v := nI 1) C dL_law_2508 (by decide) ?_
  refine zn_iadd C dL_law_2509 ?_
  refine z_sld C hX hb0 hA0 (i := i + 1) (by omega) (by omega) hx19 dL_law_2510 ?_
  refine z_aload_n C dL_law_2511 3 rfl ?_
  refine zh_callS C (aX_ok adK adV) hXc (mL_save_no l D κ adK adV ra (AA 0 0) (AA 1 0) (AA 2 0) la lb (AA 6 0) (AA 5 0) x hls hx oa fo) gL_law_L_save rfl rfl rfl hdL_save ⟨(Nat.le_of_ble_eq_true rfl), (Nat.le_of_ble_eq_true rfl)⟩ _ (fun u1 => OUTW κ oa fo ++ (MW κ Ad eo ip w σ aw (hiF h) (hiF s2) ot ++ (SW κ (AA 0) g ++ (RC ra (AA 0 0) (AA 1 0) (AA 2 0) la lb (AA 6 0) (AA 5 0) ++ (SW κ (AA 1) f ++ (HO κ (AA 2) hf nx ct ++ (hW κ Hs gh 10 ++ (SW κ (AA 3) g1 ++ (SO la (AA 3 0) f1 ++ (SW κ (AA 4) g2 ++ (SO lb (AA 4 0) f2 ++ (OW κ (AA 5) no ot ++ (SW κ (AA 7) gp ++ PW κ (AA 6) (AA 7) eo v tx))))))))))))) pmH_R (fun u1 => pmH_R.symm) rfl (Nat.le_of_ble_eq_true rfl) dL_law_2512 ⟨by show _ ≤ 601024; omega, by show _ ≤ 7293034; omega⟩ (fun u1 hu1 => ?_)
  refine z_istore C [(5, .int (nI 1)), (0, .ref (sc)), (1, .ref (ra)), (2, .ref (Ad 0)), (3, .ref (oa)), (4, .int (nI i))] dL_law_2515 (by decide) rfl ?_
  refine z_aload_n C dL_law_2517 3 rfl ?_
  refine z_aload_n C dL_law_2518 1 rfl ?_
  refine z_iload C dL_law_2519 5 rfl ?_
  refine z_iconst (v := nI 1) C dL_law_2521 (by decide) ?_
  refine zn_iadd C dL_law_2522 ?_
  refine z_sld C hX hb0 hA0 (i := i + 1) (by omega) (by omega) hx19 dL_law_2523 ?_
  refine z_callV C (mX6_save_no l D κ Ad eo ip w σ aw (hiF h) (hiF s2) ot M x hv.1 hx) gL_law_X6_save rfl rfl rfl hdX6_save ⟨(Nat.le_of_ble_eq_true rfl), (Nat.le_of_ble_eq_true rfl)⟩ 0 rfl rfl _ (fun u2 => OUTW κ oa fo ++ (MW κ Ad eo ip (upN w 1 1) σ aw (hiF h) (hiF s2) ot ++ (SW κ (AA 0) g ++ (RC ra (AA 0 0) (AA 1 0) (AA 2 0) la lb (AA 6 0) (AA 5 0) ++ (SW κ (AA 1) f ++ (HO κ (AA 2) hf nx ct ++ (hW κ Hs gh 10 ++ (SW κ (AA 3) g1 ++ (SO la (AA 3 0) f1 ++ (SW κ (AA 4) g2 ++ (SO lb (AA 4 0) f2 ++ (OW κ (AA 5) no ot ++ (SW κ (AA 7) gp ++ PW κ (AA 6) (AA 7) eo v tx))))))))))))) pmM (fun u2 => pmM.symm) rfl (Nat.le_of_ble_eq_true rfl) dL_law_2524 ⟨by show _ ≤ 601024; omega, by show _ ≤ 7293034; omega⟩ (fun u2 hu2 => ?_)
  refine z_istore C [(6, .int ((nI 0))), (5, .int (nI 1)), (0, .ref (sc)), (1, .ref (ra)), (2, .ref (Ad 0)), (3, .ref (oa)), (4, .int (nI i))] dL_law_2527 (by decide) rfl ?_
  refine z_aload_n C dL_law_2529 4 rfl ?_
  refine z_callV C (mX6_thrown l D κ Ad eo ip (upN w 1 1) σ aw (hiF h) (hiF s2) ot) gL_law_X6_thrown rfl rfl rfl hdX6_thrown ⟨(Nat.le_of_ble_eq_true rfl), (Nat.le_of_ble_eq_true rfl)⟩ 0 rfl rfl _ (fun _ => OUTW κ oa fo ++ (MW κ Ad eo ip (upN w 1 1) σ aw (hiF h) (hiF s2) ot ++ (SW κ (AA 0) g ++ (RC ra (AA 0 0) (AA 1 0) (AA 2 0) la lb (AA 6 0) (AA 5 0) ++ (SW κ (AA 1) f ++ (HO κ (AA 2) hf nx ct ++ (hW κ Hs gh 10 ++ (SW κ (AA 3) g1 ++ (SO la (AA 3 0) f1 ++ (SW κ (AA 4) g2 ++ (SO lb (AA 4 0) f2 ++ (OW κ (AA 5) no ot ++ (SW κ (AA 7) gp ++ PW κ (AA 6) (AA 7) eo v tx))))))))))))) pmM (fun _ => pmM.symm) rfl (Nat.le_of_ble_eq_true rfl) dL_law_2530 ⟨by show _ ≤ 601024; omega, by show _ ≤ 7293034; omega⟩ (fun _ _ => ?_)
  refine z_iload C dL_law_2533 1 rfl ?_
  refine z_icmpE C 2540 rfl dL_law_2535 (by decide) ?_
  refine z_iload C dL_law_2540 1 rfl ?_
  refine z_if_ne C 2557 dL_law_2542 (by decide) (fun _ => ?_) (fun q => absurd q (by decide))
  refine z_goto (tgt := 2685) C dL_law_2557 (by decide) ?_
  refine z_lv [2, 3, 4, 5, 6] rfl ?_
  exact K fo g f g1 g2 gp gh nx ct f1 f2 no ot eo v tx ip (upN w 1 1) σ aw h s2 (cells + 1) (slots + 6) (by omega) (by omega) ((H.mono (by omega) (by omega)).w1 _)
set_option maxRecDepth 100000 in
set_option maxHeartbeats 8000000 in
theorem lc_51 (C : zC p s m args c cL_law 9 wsL_law RL D (zTy κ) A) (hXc : aX adK adV A s s.heap) (hls : l.stackTraces = false) (hX : va_X sc L xs s s.heap) (hb0 : sc < s.heap.size) (hA0 : ¬ A sc) (hhf : ∀ j, j < 10 → hf j = some (Hs j 0)) (hi6 : i + 6 ≤ L) (hL : L ≤ 3072) (hcr : cells + 1 ≤ 601024 ∧ slots + 6 ≤ 7293034) (H : LI M g g1 g2 gh nx ct f1 f2 no v tx ip w σ h s2) (hM1 : 700000 ≤ M) (hM : M ≤ 1400000) (K : LGO p l e s m args below meth c D A Q sc κ ra la lb oa Ad AA Hs hf 2685 (M + 1200) i (cells + 1) (slots + 6))   : zW p l e RML s m args below meth c 9 D A cells slots Q (LAWW κ ra la lb oa Ad AA Hs hf fo g f g1 g2 gp gh nx ct f1 f2 no ot eo v tx ip w σ aw h s2) [(0, .ref (sc)), (1, .ref (ra)), (2, .ref (Ad 0)), (3, .ref (oa)), (4, .int (nI i))] 2560 [] := by
  obtain ⟨hr, hv, ht0⟩ := id H.1
  obtain ⟨hnx, hct, h5, -⟩ := id H.2.1
  obtain ⟨q1, q2, h7, -, -⟩ := id H.2.2.1
  obtain ⟨v1, hw9, v2, ht⟩ := id H.2.2.2.1
  obtain ⟨hno, hn64⟩ := id H.2.2.2.2
  have n1 := hv.n1
  have n2 := hv.n2
  refine z_aload_n C dL_law_2560 1 rfl ?_
  refine z_callV C (mX5_writeRing l D κ (AA 0) (AA 5) g ra (AA 1 0) (AA 2 0) la lb (AA 6 0) no ot σ M hr hv) gL_law_X5_writeRing rfl rfl rfl hdX5_writeRing ⟨(Nat.le_of_ble_eq_true rfl), (Nat.le_of_ble_eq_true rfl)⟩ 13 rfl rfl _ (fun u1 => OUTW κ oa fo ++ (MW κ Ad eo ip w σ aw (hiF h) (hiF s2) ot ++ (SW κ (AA 0) g ++ (RC ra (AA 0 0) (AA 1 0) (AA 2 0) la lb (AA 6 0) (AA 5 0) ++ (SW κ (AA 1) f ++ (HO κ (AA 2) hf nx ct ++ (hW κ Hs gh 10 ++ (SW κ (AA 3) g1 ++ (SO la (AA 3 0) f1 ++ (SW κ (AA 4) g2 ++ (SO lb (AA 4 0) f2 ++ (OW κ (AA 5) (wRing σ (ot, 0) (σ 1)).2 (wRing σ (ot, 0) (σ 1)).1 ++ (SW κ (AA 7) gp ++ PW κ (AA 6) (AA 7) eo v tx))))))))))))) pmX_w (fun u1 => pmX_w.symm) rfl (Nat.le_of_ble_eq_true rfl) dL_law_2561 ⟨by show _ ≤ 601024; omega, by show _ ≤ 7293034; omega⟩ (fun u1 hu1 => ?_)
  refine z_aload_n C dL_law_2564 2 rfl ?_
  refine z_callV C (mX6_writeRing l D κ Ad eo ip w σ aw (hiF h) (hiF s2) ot M hv.1 (fun z hz => (hv.blk hz).2.2.2.2.2.2.2.1)) gL_law_X6_writeRing rfl rfl rfl hdX6_writeRing ⟨(Nat.le_of_ble_eq_true rfl), (Nat.le_of_ble_eq_true rfl)⟩ 0 rfl rfl _ (fun u2 => OUTW κ oa fo ++ (MW κ Ad eo ip (upN (upN w 11 ((wRing σ (ot, 0) (σ 1)).2)) 1 0) σ aw (hiF h) (hiF s2) ((wRing σ (ot, 0) (σ 1)).1) ++ (SW κ (AA 0) g ++ (RC ra (AA 0 0) (AA 1 0) (AA 2 0) la lb (AA 6 0) (AA 5 0) ++ (SW κ (AA 1) f ++ (HO κ (AA 2) hf nx ct ++ (hW κ Hs gh 10 ++ (SW κ (AA 3) g1 ++ (SO la (AA 3 0) f1 ++ (SW κ (AA 4) g2 ++ (SO lb (AA 4 0) f2 ++ (OW κ (AA 5) (wRing σ (ot, 0) (σ 1)).2 (wRing σ (ot, 0) (σ 1)).1 ++ (SW κ (AA 7) gp ++ PW κ (AA 6) (AA 7) eo v tx))))))))))))) pmM (fun u2 => pmM.symm) rfl (Nat.le_of_ble_eq_true rfl) dL_law_2565 ⟨by show _ ≤ 601024; omega, by show _ ≤ 7293034; omega⟩ (fun u2 hu2 => ?_)
  refine z_icmpE C 2685 rfl dL_law_2568 (by decide) ?_
  refine z_lv [0, 1, 2, 3, 4] rfl ?_
  exact K fo g f g1 g2 gp gh nx ct f1 f2 (wRing σ (ot, 0) (σ 1)).2 (wRing σ (ot, 0) (σ 1)).1 eo v tx ip (upN (upN w 11 ((wRing σ (ot, 0) (σ 1)).2)) 1 0) σ aw h s2 cells slots (by omega) (by omega) (H.wr (by omega) (by omega) (Nat.le_trans (wRing_le hv (ot, 0) (σ 1) (Nat.le_refl _)) (by simp only; omega)))
set_option maxRecDepth 100000 in
set_option maxHeartbeats 8000000 in
theorem lc_52_ok (C : zC p s m args c cL_law 9 wsL_law RL D (zTy κ) A) (hXc : aX adK adV A s s.heap) (hls : l.stackTraces = false) (hX : va_X sc L xs s s.heap) (hb0 : sc < s.heap.size) (hA0 : ¬ A sc) (hhf : ∀ j, j < 10 → hf j = some (Hs j 0)) (hi6 : i + 6 ≤ L) (hL : L ≤ 3072) (hcr : cells + 1 ≤ 601024 ∧ slots + 6 ≤ 7293034) (H : LI M g g1 g2 gh nx ct f1 f2 no v tx ip w σ h s2) (hM1 : 700000 ≤ M) (hM : M ≤ 1400000) (K : LGO p l e s m args below meth c D A Q sc κ ra la lb oa Ad AA Hs hf 2685 (M + 1200) i (cells + 1) (slots + 6)) (b : Nat) (hb : b < σ 2) (hx19 : xs (i + 1) = nI b) : zW p l e RML s m args below meth c 9 D A cells slots Q (LAWW κ ra la lb oa Ad AA Hs hf fo g f g1 g2 gp gh nx ct f1 f2 no ot eo v tx ip w σ aw h s2) [(0, .ref (sc)), (1, .ref (ra)), (2, .ref (Ad 0)), (3, .ref (oa)), (4, .int (nI i))] 2573 [] := by
  obtain ⟨hr, hv, ht0⟩ := id H.1
  obtain ⟨hnx, hct, h5, -⟩ := id H.2.1
  obtain ⟨q1, q2, h7, -, -⟩ := id H.2.2.1
  obtain ⟨v1, hw9, v2, ht⟩ := id H.2.2.2.1
  obtain ⟨hno, hn64⟩ := id H.2.2.2.2
  have n1 := hv.n1
  have n2 := hv.n2
  refine z_aload_n C dL_law_2573 1 rfl ?_
  refine z_aload_n C dL_law_2574 0 rfl ?_
  refine z_iload C dL_law_2575 4 rfl ?_
  refine z_iconst (v := nI 1) C dL_law_2577 (by decide) ?_
  refine zn_iadd C dL_law_2578 ?_
  refine z_sld C hX hb0 hA0 (i := i + 1) (by omega) (by omega) hx19 dL_law_2579 ?_
  refine z_aload_n C dL_law_2580 3 rfl ?_
  refine zh_callS C (aX_ok adK adV) hXc (mL_writeTrain_ok l D κ (AA 0) (AA 5) g ra (AA 1 0) (AA 2 0) la lb (AA 6 0) no ot σ M b hr hv hb adK adV oa fo) gL_law_L_writeTrain rfl rfl rfl hdL_writeTrain ⟨(Nat.le_of_ble_eq_true rfl), (Nat.le_of_ble_eq_true rfl)⟩ _ (fun u1 => OUTW κ oa (vp_updL fo 0 (((nI (wTrn σ (ot, 0) b).2)).toInt64)) ++ (MW κ Ad eo ip w σ aw (hiF h) (hiF s2) ot ++ (SW κ (AA 0) g ++ (RC ra (AA 0 0) (AA 1 0) (AA 2 0) la lb (AA 6 0) (AA 5 0) ++ (SW κ (AA 1) f ++ (HO κ (AA 2) hf nx ct ++ (hW κ Hs gh 10 ++ (SW κ (AA 3) g1 ++ (SO la (AA 3 0) f1 ++ (SW κ (AA 4) g2 ++ (SO lb (AA 4 0) f2 ++ (OW κ (AA 5) (wTrn σ (ot, 0) b).2 (wTrn σ (ot, 0) b).1 ++ (SW κ (AA 7) gp ++ PW κ (AA 6) (AA 7) eo v tx))))))))))))) pmH_w (fun u1 => pmH_w.symm) rfl (Nat.le_of_ble_eq_true rfl) dL_law_2581 ⟨by show _ ≤ 601024; omega, by show _ ≤ 7293034; omega⟩ (fun u1 hu1 => ?_)
  refine z_istore C [(5, .int (nI 0)), (0, .ref (sc)), (1, .ref (ra)), (2, .ref (Ad 0)), (3, .ref (oa)), (4, .int (nI i))] dL_law_2584 (by decide) rfl ?_
  refine z_aload_n C dL_law_2586 3 rfl ?_
  refine z_aload_n C dL_law_2587 1 rfl ?_
  refine z_iload C dL_law_2588 5 rfl ?_
  refine z_iconst (v := nI 1) C dL_law_2590 (by decide) ?_
  refine zn_iadd C dL_law_2591 ?_
  refine z_sld C hX hb0 hA0 (i := i + 1) (by omega) (by omega) hx19 dL_law_2592 ?_
  refine z_callV C (mX6_writeTrain_ok l D κ Ad eo ip w σ aw (hiF h) (hiF s2) ot M b hv.1 (by first | assumption | omega) (by have a1 := hv.trn hb; have a2 := hv.blk a1.2.2.2.2.1; omega) (by have a1 := hv.trn hb; have a2 := hv.blk a1.2.2.2.2.1; omega) (by have a1 := hv.trn hb; omega)) gL_law_X6_writeTrain rfl rfl rfl hdX6_writeTrain ⟨(Nat.le_of_ble_eq_true rfl), (Nat.le_of_ble_eq_true rfl)⟩ 0 rfl rfl _ (fun u2 => OUTW κ oa (vp_updL fo 0 (((nI (wTrn σ (ot, 0) b).2)).toInt64)) ++ (MW κ Ad eo ip (upN (upN w 11 ((wTrn σ (ot, 0) b).2)) 1 0) σ aw (hiF h) (hiF s2) ((wTrn σ (ot, 0) b).1) ++ (SW κ (AA 0) g ++ (RC ra (AA 0 0) (AA 1 0) (AA 2 0) la lb (AA 6 0) (AA 5 0) ++ (SW κ (AA 1) f ++ (HO κ (AA 2) hf nx ct ++ (hW κ Hs gh 10 ++ (SW κ (AA 3) g1 ++ (SO la (AA 3 0) f1 ++ (SW κ (AA 4) g2 ++ (SO lb (AA 4 0) f2 ++ (OW κ (AA 5) (wTrn σ (ot, 0) b).2 (wTrn σ (ot, 0) b).1 ++ (SW κ (AA 7) gp ++ PW κ (AA 6) (AA 7) eo v tx))))))))))))) pmM (fun u2 => pmM.symm) rfl (Nat.le_of_ble_eq_true rfl) dL_law_2593 ⟨by show _ ≤ 601024; omega, by show _ ≤ 7293034; omega⟩ (fun u2 hu2 => ?_)
  refine z_istore C [(6, .int ((nI ((wTrn σ (ot, 0) b).2)))), (5, .int (nI 0)), (0, .ref (sc)), (1, .ref (ra)), (2, .ref (Ad 0)), (3, .ref (oa)), (4, .int (nI i))] dL_law_2596 (by decide) rfl ?_
  refine z_aload_n C dL_law_2598 4 rfl ?_
  refine z_callV C (mX6_thrown l D κ Ad eo ip (upN (upN w 11 ((wTrn σ (ot, 0) b).2)) 1 0) σ aw (hiF h) (hiF s2) ((wTrn σ (ot, 0) b).1)) gL_law_X6_thrown rfl rfl rfl hdX6_thrown ⟨(Nat.le_of_ble_eq_true rfl), (Nat.le_of_ble_eq_true rfl)⟩ 0 rfl rfl _ (fun _ => OUTW κ oa (vp_updL fo 0 (((nI (wTrn σ (ot, 0) b).2)).toInt64)) ++ (MW κ Ad eo ip (upN (upN w 11 ((wTrn σ (ot, 0) b).2)) 1 0) σ aw (hiF h) (hiF s2) ((wTrn σ (ot, 0) b).1) ++ (SW κ (AA 0) g ++ (RC ra (AA 0 0) (AA 1 0) (AA 2 0) la lb (AA 6 0) (AA 5 0) ++ (SW κ (AA 1) f ++ (HO κ (AA 2) hf nx ct ++ (hW κ Hs gh 10 ++ (SW κ (AA 3) g1 ++ (SO la (AA 3 0) f1 ++ (SW κ (AA 4) g2 ++ (SO lb (AA 4 0) f2 ++ (OW κ (AA 5) (wTrn σ (ot, 0) b).2 (wTrn σ (ot, 0) b).1 ++ (SW κ (AA 7) gp ++ PW κ (AA 6) (AA 7) eo v tx))))))))))))) pmM (fun _ => pmM.symm) rfl (Nat.le_of_ble_eq_true rfl) dL_law_2599 ⟨by show _ ≤ 601024; omega, by show _ ≤ 7293034; omega⟩ (fun _ _ => ?_)
  refine z_iload C dL_law_2602 1 rfl ?_
  refine z_icmpE C 2609 rfl dL_law_2604 (by decide) ?_
  refine z_iload C dL_law_2609 1 rfl ?_
  refine z_if_ne C 2626 dL_law_2611 (by decide) (fun q => absurd (by decide) q) (fun _ => ?_)
  refine z_aload_n C dL_law_2614 5 rfl ?_
  refine z_iconst (v := nI 0) C dL_law_2615 (by decide) ?_
  refine z_lald C 0 4 rfl rfl (i := 0) (by decide) (by decide) dL_law_2616 ?_
  refine z_iload C dL_law_2617 0 rfl ?_
  refine z_i2l C dL_law_2619 rfl ?_
  refine z_lcmpE C (updL_0) dL_law_2620 ?_
  refine z_if_eq C 2626 dL_law_2621 (by decide) (fun _ => ?_) (fun q => absurd (by decide) q)
  refine z_goto (tgt := 2685) C dL_law_2626 (by decide) ?_
  refine z_lv [2, 3, 4, 5, 6] rfl ?_
  exact K (vp_updL fo 0 (((nI (wTrn σ (ot, 0) b).2)).toInt64)) g f g1 g2 gp gh nx ct f1 f2 (wTrn σ (ot, 0) b).2 (wTrn σ (ot, 0) b).1 eo v tx ip (upN (upN w 11 ((wTrn σ (ot, 0) b).2)) 1 0) σ aw h s2 cells slots (by omega) (by omega) (H.wr (by omega) (by omega) (Nat.le_trans (wTrn_le σ ot b) (by decide)))
set_option maxRecDepth 100000 in
set_option maxHeartbeats 8000000 in
theorem lc_52_no (C : zC p s m args c cL_law 9 wsL_law RL D (zTy κ) A) (hXc : aX adK adV A s s.heap) (hls : l.stackTraces = false) (hX : va_X sc L xs s s.heap) (hb0 : sc < s.heap.size) (hA0 : ¬ A sc) (hhf : ∀ j, j < 10 → hf j = some (Hs j 0)) (hi6 : i + 6 ≤ L) (hL : L ≤ 3072) (hcr : cells + 1 ≤ 601024 ∧ slots + 6 ≤ 7293034) (H : LI M g g1 g2 gh nx ct f1 f2 no v tx ip w σ h s2) (hM1 : 700000 ≤ M) (hM : M ≤ 1400000) (K : LGO p l e s m args below meth c D A Q sc κ ra la lb oa Ad AA Hs hf 2685 (M + 1200) i (cells + 1) (slots + 6)) (x : Int32) (hx : isB (σ 2) x = false) (hx19 : xs (i + 1) = x) : zW p l e RML s m args below meth c 9 D A cells slots Q (LAWW κ ra la lb oa Ad AA Hs hf fo g f g1 g2 gp gh nx ct f1 f2 no ot eo v tx ip w σ aw h s2) [(0, .ref (sc)), (1, .ref (ra)), (2, .ref (Ad 0)), (3, .ref (oa)), (4, .int (nI i))] 2573 [] := by
  obtain ⟨hr, hv, ht0⟩ := id H.1
  obtain ⟨hnx, hct, h5, -⟩ := id H.2.1
  obtain ⟨q1, q2, h7, -, -⟩ := id H.2.2.1
  obtain ⟨v1, hw9, v2, ht⟩ := id H.2.2.2.1
  obtain ⟨hno, hn64⟩ := id H.2.2.2.2
  have n1 := hv.n1
  have n2 := hv.n2
  refine z_aload_n C dL_law_2573 1 rfl ?_
  refine z_aload_n C dL_law_2574 0 rfl ?_
  refine z_iload C dL_law_2575 4 rfl ?_
  refine z_iconst (v := nI 1) C dL_law_2577 (by decide) ?_
  refine zn_iadd C dL_law_2578 ?_
  refine z_sld C hX hb0 hA0 (i := i + 1) (by omega) (by omega) hx19 dL_law_2579 ?_
  refine z_aload_n C dL_law_2580 3 rfl ?_
  refine zh_callS C (aX_ok adK adV) hXc (mL_writeTrain_no l D κ adK adV (AA 0) g ra (AA 1 0) (AA 2 0) la lb (AA 6 0) (AA 5 0) σ M x hls hr hv hx oa fo) gL_law_L_writeTrain rfl rfl rfl hdL_writeTrain ⟨(Nat.le_of_ble_eq_true rfl), (Nat.le_of_ble_eq_true rfl)⟩ _ (fun u1 => OUTW κ oa fo ++ (MW κ Ad eo ip w σ aw (hiF h) (hiF s2) ot ++ (SW κ (AA 0) g ++ (RC ra (AA 0 0) (AA 1 0) (AA 2 0) la lb (AA 6 0) (AA 5 0) ++ (SW κ (AA 1) f ++ (HO κ (AA 2) hf nx ct ++ (hW κ Hs gh 10 ++ (SW κ (AA 3) g1 ++ (SO la (AA 3 0) f1 ++ (SW κ (AA 4) g2 ++ (SO lb (AA 4 0) f2 ++ (OW κ (AA 5) no ot ++ (SW κ (AA 7) gp ++ PW κ (AA 6) (AA 7) eo v tx))))))))))))) pmH_S (fun u1 => pmH_S.symm) rfl (Nat.le_of_ble_eq_true rfl) dL_law_2581 ⟨by show _ ≤ 601024; omega, by show _ ≤ 7293034; omega⟩ (fun u1 hu1 => ?_)
  refine z_istore C [(5, .int (nI 1)), (0, .ref (sc)), (1, .ref (ra)), (2, .ref (Ad 0)), (3, .ref (oa)), (4, .int (nI i))] dL_law_2584 (by decide) rfl ?_
  refine z_aload_n C dL_law_2586 3 rfl ?_
  refine z_aload_n C dL_law_2587 1 rfl ?_
  refine z_iload C dL_law_2588 5 rfl ?_
  refine z_iconst (v := nI 1) C dL_law_2590 (by decide) ?_
  refine zn_iadd C dL_law_2591 ?_
  refine z_sld C hX hb0 hA0 (i := i + 1) (by omega) (by omega) hx19 dL_law_2592 ?_
  refine z_callV C (mX6_writeTrain_no l D κ Ad eo ip w σ aw (hiF h) (hiF s2) ot M x hv.1 hx) gL_law_X6_writeTrain rfl rfl rfl hdX6_writeTrain ⟨(Nat.le_of_ble_eq_true rfl), (Nat.le_of_ble_eq_true rfl)⟩ 0 rfl rfl _ (fun u2 => OUTW κ oa fo ++ (MW κ Ad eo ip (upN w 1 1) σ aw (hiF h) (hiF s2) ot ++ (SW κ (AA 0) g ++ (RC ra (AA 0 0) (AA 1 0) (AA 2 0) la lb (AA 6 0) (AA 5 0) ++ (SW κ (AA 1) f ++ (HO κ (AA 2) hf nx ct ++ (hW κ Hs gh 10 ++ (SW κ (AA 3) g1 ++ (SO la (AA 3 0) f1 ++ (SW κ (AA 4) g2 ++ (SO lb (AA 4 0) f2 ++ (OW κ (AA 5) no ot ++ (SW κ (AA 7) gp ++ PW κ (AA 6) (AA 7) eo v tx))))))))))))) pmM (fun u2 => pmM.symm) rfl (Nat.le_of_ble_eq_true rfl) dL_law_2593 ⟨by show _ ≤ 601024; omega, by show _ ≤ 7293034; omega⟩ (fun u2 hu2 => ?_)
  refine z_istore C [(6, .int ((nI 0))), (5, .int (nI 1)), (0, .ref (sc)), (1, .ref (ra)), (2, .ref (Ad 0)), (3, .ref (oa)), (4, .int (nI i))] dL_law_2596 (by decide) rfl ?_
  refine z_aload_n C dL_law_2598 4 rfl ?_
  refine z_callV C (mX6_thrown l D κ Ad eo ip (upN w 1 1) σ aw (hiF h) (hiF s2) ot) gL_law_X6_thrown rfl rfl rfl hdX6_thrown ⟨(Nat.le_of_ble_eq_true rfl), (Nat.le_of_ble_eq_true rfl)⟩ 0 rfl rfl _ (fun _ => OUTW κ oa fo ++ (MW κ Ad eo ip (upN w 1 1) σ aw (hiF h) (hiF s2) ot ++ (SW κ (AA 0) g ++ (RC ra (AA 0 0) (AA 1 0) (AA 2 0) la lb (AA 6 0) (AA 5 0) ++ (SW κ (AA 1) f ++ (HO κ (AA 2) hf nx ct ++ (hW κ Hs gh 10 ++ (SW κ (AA 3) g1 ++ (SO la (AA 3 0) f1 ++ (SW κ (AA 4) g2 ++ (SO lb (AA 4 0) f2 ++ (OW κ (AA 5) no ot ++ (SW κ (AA 7) gp ++ PW κ (AA 6) (AA 7) eo v tx))))))))))))) pmM (fun _ => pmM.symm) rfl (Nat.le_of_ble_eq_true rfl) dL_law_2599 ⟨by show _ ≤ 601024; omega, by show _ ≤ 7293034; omega⟩ (fun _ _ => ?_)
  refine z_iload C dL_law_2602 1 rfl ?_
  refine z_icmpE C 2609 rfl dL_law_2604 (by decide) ?_
  refine z_iload C dL_law_2609 1 rfl ?_
  refine z_if_ne C 2626 dL_law_2611 (by decide) (fun _ => ?_) (fun q => absurd q (by decide))
  refine z_goto (tgt := 2685) C dL_law_2626 (by decide) ?_
  refine z_lv [2, 3, 4, 5, 6] rfl ?_
  exact K fo g f g1 g2 gp gh nx ct f1 f2 no ot eo v tx ip (upN w 1 1) σ aw h s2 (cells + 1) (slots + 6) (by omega) (by omega) ((H.mono (by omega) (by omega)).w1 _)
set_option maxRecDepth 100000 in
set_option maxHeartbeats 8000000 in
theorem lc_53_ok (C : zC p s m args c cL_law 9 wsL_law RL D (zTy κ) A) (hXc : aX adK adV A s s.heap) (hls : l.stackTraces = false) (hX : va_X sc L xs s s.heap) (hb0 : sc < s.heap.size) (hA0 : ¬ A sc) (hhf : ∀ j, j < 10 → hf j = some (Hs j 0)) (hi6 : i + 6 ≤ L) (hL : L ≤ 3072) (hcr : cells + 1 ≤ 601024 ∧ slots + 6 ≤ 7293034) (H : LI M g g1 g2 gh nx ct f1 f2 no v tx ip w σ h s2) (hM1 : 700000 ≤ M) (hM : M ≤ 1400000) (K : LGO p l e s m args below meth c D A Q sc κ ra la lb oa Ad AA Hs hf 2685 (M + 1200) i (cells + 1) (slots + 6)) (k : Nat) (hk0 : k < no) (hx19 : xs (i + 1) = nI k) : zW p l e RML s m args below meth c 9 D A cells slots Q (LAWW κ ra la lb oa Ad AA Hs hf fo g f g1 g2 gp gh nx ct f1 f2 no ot eo v tx ip w σ aw h s2) [(0, .ref (sc)), (1, .ref (ra)), (2, .ref (Ad 0)), (3, .ref (oa)), (4, .int (nI i))] 2629 [] := by
  obtain ⟨hr, hv, ht0⟩ := id H.1
  obtain ⟨hnx, hct, h5, -⟩ := id H.2.1
  obtain ⟨q1, q2, h7, -, -⟩ := id H.2.2.1
  obtain ⟨v1, hw9, v2, ht⟩ := id H.2.2.2.1
  obtain ⟨hno, hn64⟩ := id H.2.2.2.2
  have n1 := hv.n1
  have n2 := hv.n2
  refine z_aload_n C dL_law_2629 1 rfl ?_
  refine z_aload_n C dL_law_2630 0 rfl ?_
  refine z_iload C dL_law_2631 4 rfl ?_
  refine z_iconst (v := nI 1) C dL_law_2633 (by decide) ?_
  refine zn_iadd C dL_law_2634 ?_
  refine z_sld C hX hb0 hA0 (i := i + 1) (by omega) (by omega) hx19 dL_law_2635 ?_
  refine z_aload_n C dL_law_2636 3 rfl ?_
  refine zh_callS C (aX_ok adK adV) hXc (mL_outputByte_ok l D κ (AA 5) ra (AA 0 0) (AA 1 0) (AA 2 0) la lb (AA 6 0) no ot k hk0 hn64 adK adV oa fo) gL_law_L_outputByte rfl rfl rfl hdL_outputByte ⟨(Nat.le_of_ble_eq_true rfl), (Nat.le_of_ble_eq_true rfl)⟩ _ (fun u1 => OUTW κ oa (vp_updL fo 0 (((nI (ot k))).toInt64)) ++ (MW κ Ad eo ip w σ aw (hiF h) (hiF s2) ot ++ (SW κ (AA 0) g ++ (RC ra (AA 0 0) (AA 1 0) (AA 2 0) la lb (AA 6 0) (AA 5 0) ++ (SW κ (AA 1) f ++ (HO κ (AA 2) hf nx ct ++ (hW κ Hs gh 10 ++ (SW κ (AA 3) g1 ++ (SO la (AA 3 0) f1 ++ (SW κ (AA 4) g2 ++ (SO lb (AA 4 0) f2 ++ (OW κ (AA 5) no ot ++ (SW κ (AA 7) gp ++ PW κ (AA 6) (AA 7) eo v tx))))))))))))) pmH_o (fun u1 => pmH_o.symm) rfl (Nat.le_of_ble_eq_true rfl) dL_law_2637 ⟨by show _ ≤ 601024; omega, by show _ ≤ 7293034; omega⟩ (fun u1 hu1 => ?_)
  refine z_istore C [(5, .int (nI 0)), (0, .ref (sc)), (1, .ref (ra)), (2, .ref (Ad 0)), (3, .ref (oa)), (4, .int (nI i))] dL_law_2640 (by decide) rfl ?_
  refine z_aload_n C dL_law_2642 3 rfl ?_
  refine z_aload_n C dL_law_2643 1 rfl ?_
  refine z_iload C dL_law_2644 5 rfl ?_
  refine z_iconst (v := nI 1) C dL_law_2646 (by decide) ?_
  refine zn_iadd C dL_law_2647 ?_
  refine z_sld C hX hb0 hA0 (i := i + 1) (by omega) (by omega) hx19 dL_law_2648 ?_
  refine z_callV C (mX6_outputByte_ok l D κ Ad eo ip w σ aw (hiF h) (hiF s2) ot M k hv.1 (by first | assumption | omega) (by first | assumption | omega)) gL_law_X6_outputByte rfl rfl rfl hdX6_outputByte ⟨(Nat.le_of_ble_eq_true rfl), (Nat.le_of_ble_eq_true rfl)⟩ 0 rfl rfl _ (fun u2 => OUTW κ oa (vp_updL fo 0 (((nI (ot k))).toInt64)) ++ (MW κ Ad eo ip (upN w 1 0) σ aw (hiF h) (hiF s2) ot ++ (SW κ (AA 0) g ++ (RC ra (AA 0 0) (AA 1 0) (AA 2 0) la lb (AA 6 0) (AA 5 0) ++ (SW κ (AA 1) f ++ (HO κ (AA 2) hf nx ct ++ (hW κ Hs gh 10 ++ (SW κ (AA 3) g1 ++ (SO la (AA 3 0) f1 ++ (SW κ (AA 4) g2 ++ (SO lb (AA 4 0) f2 ++ (OW κ (AA 5) no ot ++ (SW κ (AA 7) gp ++ PW κ (AA 6) (AA 7) eo v tx))))))))))))) pmM (fun u2 => pmM.symm) rfl (Nat.le_of_ble_eq_true rfl) dL_law_2649 ⟨by show _ ≤ 601024; omega, by show _ ≤ 7293034; omega⟩ (fun u2 hu2 => ?_)
  refine z_istore C [(6, .int ((nI (ot k)))), (5, .int (nI 0)), (0, .ref (sc)), (1, .ref (ra)), (2, .ref (Ad 0)), (3, .ref (oa)), (4, .int (nI i))] dL_law_2652 (by decide) rfl ?_
  refine z_aload_n C dL_law_2654 4 rfl ?_
  refine z_callV C (mX6_thrown l D κ Ad eo ip (upN w 1 0) σ aw (hiF h) (hiF s2) ot) gL_law_X6_thrown rfl rfl rfl hdX6_thrown ⟨(Nat.le_of_ble_eq_true rfl), (Nat.le_of_ble_eq_true rfl)⟩ 0 rfl rfl _ (fun _ => OUTW κ oa (vp_updL fo 0 (((nI (ot k))).toInt64)) ++ (MW κ Ad eo ip (upN w 1 0) σ aw (hiF h) (hiF s2) ot ++ (SW κ (AA 0) g ++ (RC ra (AA 0 0) (AA 1 0) (AA 2 0) la lb (AA 6 0) (AA 5 0) ++ (SW κ (AA 1) f ++ (HO κ (AA 2) hf nx ct ++ (hW κ Hs gh 10 ++ (SW κ (AA 3) g1 ++ (SO la (AA 3 0) f1 ++ (SW κ (AA 4) g2 ++ (SO lb (AA 4 0) f2 ++ (OW κ (AA 5) no ot ++ (SW κ (AA 7) gp ++ PW κ (AA 6) (AA 7) eo v tx))))))))))))) pmM (fun _ => pmM.symm) rfl (Nat.le_of_ble_eq_true rfl) dL_law_2655 ⟨by show _ ≤ 601024; omega, by show _ ≤ 7293034; omega⟩ (fun _ _ => ?_)
  refine z_iload C dL_law_2658 1 rfl ?_
  refine z_icmpE C 2665 rfl dL_law_2660 (by decide) ?_
  refine z_iload C dL_law_2665 1 rfl ?_
  refine z_if_ne C 2682 dL_law_2667 (by decide) (fun q => absurd (by decide) q) (fun _ => ?_)
  refine z_aload_n C dL_law_2670 5 rfl ?_
  refine z_iconst (v := nI 0) C dL_law_2671 (by decide) ?_
  refine z_lald C 0 4 rfl rfl (i := 0) (by decide) (by decide) dL_law_2672 ?_
  refine z_iload C dL_law_2673 0 rfl ?_
  refine z_i2l C dL_law_2675 rfl ?_
  refine z_lcmpE C (updL_0) dL_law_2676 ?_
  refine z_if_eq C 2682 dL_law_2677 (by decide) (fun _ => ?_) (fun q => absurd (by decide) q)
  refine z_goto (tgt := 2685) C dL_law_2682 (by decide) ?_
  refine z_lv [2, 3, 4, 5, 6] rfl ?_
  exact K (vp_updL fo 0 (((nI (ot k))).toInt64)) g f g1 g2 gp gh nx ct f1 f2 no ot eo v tx ip (upN w 1 0) σ aw h s2 cells slots (by omega) (by omega) ((H.mono (by omega) (by omega)).w1 _)
set_option maxRecDepth 100000 in
set_option maxHeartbeats 8000000 in
theorem lc_53_no (C : zC p s m args c cL_law 9 wsL_law RL D (zTy κ) A) (hXc : aX adK adV A s s.heap) (hls : l.stackTraces = false) (hX : va_X sc L xs s s.heap) (hb0 : sc < s.heap.size) (hA0 : ¬ A sc) (hhf : ∀ j, j < 10 → hf j = some (Hs j 0)) (hi6 : i + 6 ≤ L) (hL : L ≤ 3072) (hcr : cells + 1 ≤ 601024 ∧ slots + 6 ≤ 7293034) (H : LI M g g1 g2 gh nx ct f1 f2 no v tx ip w σ h s2) (hM1 : 700000 ≤ M) (hM : M ≤ 1400000) (K : LGO p l e s m args below meth c D A Q sc κ ra la lb oa Ad AA Hs hf 2685 (M + 1200) i (cells + 1) (slots + 6)) (x : Int32) (hx : isB no x = false) (hx19 : xs (i + 1) = x) : zW p l e RML s m args below meth c 9 D A cells slots Q (LAWW κ ra la lb oa Ad AA Hs hf fo g f g1 g2 gp gh nx ct f1 f2 no ot eo v tx ip w σ aw h s2) [(0, .ref (sc)), (1, .ref (ra)), (2, .ref (Ad 0)), (3, .ref (oa)), (4, .int (nI i))] 2629 [] := by
  obtain ⟨hr, hv, ht0⟩ := id H.1
  obtain ⟨hnx, hct, h5, -⟩ := id H.2.1
  obtain ⟨q1, q2, h7, -, -⟩ := id H.2.2.1
  obtain ⟨v1, hw9, v2, ht⟩ := id H.2.2.2.1
  obtain ⟨hno, hn64⟩ := id H.2.2.2.2
  have n1 := hv.n1
  have n2 := hv.n2
  refine z_aload_n C dL_law_2629 1 rfl ?_
  refine z_aload_n C dL_law_2630 0 rfl ?_
  refine z_iload C dL_law_2631 4 rfl ?_
  refine z_iconst (v := nI 1) C dL_law_2633 (by decide) ?_
  refine zn_iadd C dL_law_2634 ?_
  refine z_sld C hX hb0 hA0 (i := i + 1) (by omega) (by omega) hx19 dL_law_2635 ?_
  refine z_aload_n C dL_law_2636 3 rfl ?_
  refine zh_callS C (aX_ok adK adV) hXc (mL_outputByte_no l D κ adK adV (AA 5) ra (AA 0 0) (AA 1 0) (AA 2 0) la lb (AA 6 0) no ot x hls hn64 hx oa fo) gL_law_L_outputByte rfl rfl rfl hdL_outputByte ⟨(Nat.le_of_ble_eq_true rfl), (Nat.le_of_ble_eq_true rfl)⟩ _ (fun u1 => OUTW κ oa fo ++ (MW κ Ad eo ip w σ aw (hiF h) (hiF s2) ot ++ (SW κ (AA 0) g ++ (RC ra (AA 0 0) (AA 1 0) (AA 2 0) la lb (AA 6 0) (AA 5 0) ++ (SW κ (AA 1) f ++ (HO κ (AA 2) hf nx ct ++ (hW κ Hs gh 10 ++ (SW κ (AA 3) g1 ++ (SO la (AA 3 0) f1 ++ (SW κ (AA 4) g2 ++ (SO lb (AA 4 0) f2 ++ (OW κ (AA 5) no ot ++ (SW κ (AA 7) gp ++ PW κ (AA 6) (AA 7) eo v tx))))))))))))) pmH_o (fun u1 => pmH_o.symm) rfl (Nat.le_of_ble_eq_true rfl) dL_law_2637 ⟨by show _ ≤ 601024; omega, by show _ ≤ 7293034; omega⟩ (fun u1 hu1 => ?_)
  refine z_istore C [(5, .int (nI 1)), (0, .ref (sc)), (1, .ref (ra)), (2, .ref (Ad 0)), (3, .ref (oa)), (4, .int (nI i))] dL_law_2640 (by decide) rfl ?_
  refine z_aload_n C dL_law_2642 3 rfl ?_
  refine z_aload_n C dL_law_2643 1 rfl ?_
  refine z_iload C dL_law_2644 5 rfl ?_
  refine z_iconst (v := nI 1) C dL_law_2646 (by decide) ?_
  refine zn_iadd C dL_law_2647 ?_
  refine z_sld C hX hb0 hA0 (i := i + 1) (by omega) (by omega) hx19 dL_law_2648 ?_
  refine z_callV C (mX6_outputByte_no l D κ Ad eo ip w σ aw (hiF h) (hiF s2) ot M x hv.1 (by rw [← hno]; exact hx)) gL_law_X6_outputByte rfl rfl rfl hdX6_outputByte ⟨(Nat.le_of_ble_eq_true rfl), (Nat.le_of_ble_eq_true rfl)⟩ 0 rfl rfl _ (fun u2 => OUTW κ oa fo ++ (MW κ Ad eo ip (upN w 1 1) σ aw (hiF h) (hiF s2) ot ++ (SW κ (AA 0) g ++ (RC ra (AA 0 0) (AA 1 0) (AA 2 0) la lb (AA 6 0) (AA 5 0) ++ (SW κ (AA 1) f ++ (HO κ (AA 2) hf nx ct ++ (hW κ Hs gh 10 ++ (SW κ (AA 3) g1 ++ (SO la (AA 3 0) f1 ++ (SW κ (AA 4) g2 ++ (SO lb (AA 4 0) f2 ++ (OW κ (AA 5) no ot ++ (SW κ (AA 7) gp ++ PW κ (AA 6) (AA 7) eo v tx))))))))))))) pmM (fun u2 => pmM.symm) rfl (Nat.le_of_ble_eq_true rfl) dL_law_2649 ⟨by show _ ≤ 601024; omega, by show _ ≤ 7293034; omega⟩ (fun u2 hu2 => ?_)
  refine z_istore C [(6, .int ((nI 0))), (5, .int (nI 1)), (0, .ref (sc)), (1, .ref (ra)), (2, .ref (Ad 0)), (3, .ref (oa)), (4, .int (nI i))] dL_law_2652 (by decide) rfl ?_
  refine z_aload_n C dL_law_2654 4 rfl ?_
  refine z_callV C (mX6_thrown l D κ Ad eo ip (upN w 1 1) σ aw (hiF h) (hiF s2) ot) gL_law_X6_thrown rfl rfl rfl hdX6_thrown ⟨(Nat.le_of_ble_eq_true rfl), (Nat.le_of_ble_eq_true rfl)⟩ 0 rfl rfl _ (fun _ => OUTW κ oa fo ++ (MW κ Ad eo ip (upN w 1 1) σ aw (hiF h) (hiF s2) ot ++ (SW κ (AA 0) g ++ (RC ra (AA 0 0) (AA 1 0) (AA 2 0) la lb (AA 6 0) (AA 5 0) ++ (SW κ (AA 1) f ++ (HO κ (AA 2) hf nx ct ++ (hW κ Hs gh 10 ++ (SW κ (AA 3) g1 ++ (SO la (AA 3 0) f1 ++ (SW κ (AA 4) g2 ++ (SO lb (AA 4 0) f2 ++ (OW κ (AA 5) no ot ++ (SW κ (AA 7) gp ++ PW κ (AA 6) (AA 7) eo v tx))))))))))))) pmM (fun _ => pmM.symm) rfl (Nat.le_of_ble_eq_true rfl) dL_law_2655 ⟨by show _ ≤ 601024; omega, by show _ ≤ 7293034; omega⟩ (fun _ _ => ?_)
  refine z_iload C dL_law_2658 1 rfl ?_
  refine z_icmpE C 2665 rfl dL_law_2660 (by decide) ?_
  refine z_iload C dL_law_2665 1 rfl ?_
  refine z_if_ne C 2682 dL_law_2667 (by decide) (fun _ => ?_) (fun q => absurd q (by decide))
  refine z_goto (tgt := 2685) C dL_law_2682 (by decide) ?_
  refine z_lv [2, 3, 4, 5, 6] rfl ?_
  exact K fo g f g1 g2 gp gh nx ct f1 f2 no ot eo v tx ip (upN w 1 1) σ aw h s2 (cells + 1) (slots + 6) (by omega) (by omega) ((H.mono (by omega) (by omega)).w1 _)
end LC
