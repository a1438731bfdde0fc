section LC
variable {p : Program} {l : Launch} {e : Env} {s : State} {m : MethodId} {args : Array Value} {below : List Frame} {meth : Method} {c : Code} {D : va_G} {A : Nat → Prop} {cells slots : Nat} {Q : State → Prop} {sc L : Nat} {xs : Nat → Int32} {κ : Nat → ClassId} {adK adV : Nat → Nat} {ra la lb oa : Nat} {Ad : Nat → Nat} {AA : Nat → Nat → Nat} {Hs : Nat → Nat → Nat} {hf : Nat → Option Nat} {fo : Nat → Int64} {g f g1 g2 gp : Nat → Nat → Nat} {gh : Nat → Nat → Nat → Nat} {nx ct f1 f2 no : Nat} {ot : Nat → Nat} {eo : Int32} {v : Nat → Nat} {tx ip : Nat → Int32} {w σ aw : Nat → Nat} {h s2 : Nat → Nat → Nat} {M i : Nat}
set_option maxRecDepth 100000 in
set_option maxHeartbeats 8000000 in
theorem lc_0_ok (C : zC p s m args c cL_law 9 wsL_law RL D (zTy κ) A) (hXc : aX adK adV A s s.heap) (hls : l.stackTraces = false) (hX : va_X sc L xs s s.heap) (hb0 : sc < s.heap.size) (hA0 : ¬ A sc) (hhf : ∀ j, j < 10 → hf j = some (Hs j 0)) (hi6 : i + 6 ≤ L) (hL : L ≤ 3072) (hcr : cells + 1 ≤ 601024 ∧ slots + 6 ≤ 7293034) (H : LI M g g1 g2 gh nx ct f1 f2 no v tx ip w σ h s2) (hM1 : 700000 ≤ M) (hM : M ≤ 1400000) (K : LGO p l e s m args below meth c D A Q sc κ ra la lb oa Ad AA Hs hf 2685 (M + 1200) i (cells + 1) (slots + 6)) (x1 : Int32) (x2 : Int32) (x3 : Int32) (x4 : Int32) (x5 : Int32) (h1 : v 1 ≤ 580) (hx19 : xs (i + 1) = x1) (hx29 : xs (i + 2) = x2) (hx39 : xs (i + 3) = x3) (hx49 : xs (i + 4) = x4) (hx59 : xs (i + 5) = x5) : zW p l e RML s m args below meth c 9 D A cells slots Q (LAWW κ ra la lb oa Ad AA Hs hf fo g f g1 g2 gp gh nx ct f1 f2 no ot eo v tx ip w σ aw h s2) [(0, .ref (sc)), (1, .ref (ra)), (2, .ref (Ad 0)), (3, .ref (oa)), (4, .int (nI i))] 272 [] := by
  obtain ⟨hr, hv, ht0⟩ := id H.1
  obtain ⟨hnx, hct, h5, -⟩ := id H.2.1
  obtain ⟨q1, q2, h7, -, -⟩ := id H.2.2.1
  obtain ⟨v1, hw9, v2, ht⟩ := id H.2.2.2.1
  obtain ⟨hno, hn64⟩ := id H.2.2.2.2
  have n1 := hv.n1
  have n2 := hv.n2
  refine z_aload_n C dL_law_272 1 rfl ?_
  refine z_aload_n C dL_law_273 0 rfl ?_
  refine z_iload C dL_law_274 4 rfl ?_
  refine z_iconst (v := nI 1) C dL_law_276 (by decide) ?_
  refine zn_iadd C dL_law_277 ?_
  refine z_sld C hX hb0 hA0 (i := i + 1) (by omega) (by omega) hx19 dL_law_278 ?_
  refine z_aload_n C dL_law_279 0 rfl ?_
  refine z_iload C dL_law_280 4 rfl ?_
  refine z_iconst (v := nI 2) C dL_law_282 (by decide) ?_
  refine zn_iadd C dL_law_283 ?_
  refine z_sld C hX hb0 hA0 (i := i + 2) (by omega) (by omega) hx29 dL_law_284 ?_
  refine z_aload_n C dL_law_285 0 rfl ?_
  refine z_iload C dL_law_286 4 rfl ?_
  refine z_iconst (v := nI 3) C dL_law_288 (by decide) ?_
  refine zn_iadd C dL_law_289 ?_
  refine z_sld C hX hb0 hA0 (i := i + 3) (by omega) (by omega) hx39 dL_law_290 ?_
  refine z_aload_n C dL_law_291 0 rfl ?_
  refine z_iload C dL_law_292 4 rfl ?_
  refine z_iconst (v := nI 4) C dL_law_294 (by decide) ?_
  refine zn_iadd C dL_law_295 ?_
  refine z_sld C hX hb0 hA0 (i := i + 4) (by omega) (by omega) hx49 dL_law_296 ?_
  refine z_aload_n C dL_law_297 0 rfl ?_
  refine z_iload C dL_law_298 4 rfl ?_
  refine z_iconst (v := nI 5) C dL_law_300 (by decide) ?_
  refine zn_iadd C dL_law_301 ?_
  refine z_sld C hX hb0 hA0 (i := i + 5) (by omega) (by omega) hx59 dL_law_302 ?_
  refine z_aload_n C dL_law_303 3 rfl ?_
  refine zh_callS C (aX_ok adK adV) hXc (mL_append_ok l D κ (AA 6) (AA 7) ra (AA 0 0) (AA 1 0) (AA 2 0) la lb (AA 5 0) eo v tx x1 x2 x3 x4 x5 h1 adK adV oa fo) gL_law_L_append rfl rfl rfl hdL_append ⟨(Nat.le_of_ble_eq_true rfl), (Nat.le_of_ble_eq_true rfl)⟩ _ (fun u1 => OUTW κ oa (vp_updL fo 0 (((nI (v 1 + 4 + 4 + 4 + 4 + 4))).toInt64)) ++ (MW κ Ad eo ip w σ aw (hiF h) (hiF s2) ot ++ (SW κ (AA 0) g ++ (RC ra (AA 0 0) (AA 1 0) (AA 2 0) la lb (AA 6 0) (AA 5 0) ++ (SW κ (AA 1) f ++ (HO κ (AA 2) hf nx ct ++ (hW κ Hs gh 10 ++ (SW κ (AA 3) g1 ++ (SO la (AA 3 0) f1 ++ (SW κ (AA 4) g2 ++ (SO lb (AA 4 0) f2 ++ (OW κ (AA 5) no ot ++ (SW κ (AA 7) gp ++ PW κ (AA 6) (AA 7) eo (upN v 1 (v 1 + 4 + 4 + 4 + 4 + 4)) (fdF (fdF (fdF (fdF (fdF tx (v 1) x1) (v 1 + 4) x2) (v 1 + 4 + 4) x3) (v 1 + 4 + 4 + 4) x4) (v 1 + 4 + 4 + 4 + 4) x5)))))))))))))) pmH_p (fun u1 => pmH_p.symm) rfl (Nat.le_of_ble_eq_true rfl) dL_law_304 ⟨by show _ ≤ 601024; omega, by show _ ≤ 7293034; omega⟩ (fun u1 hu1 => ?_)
  refine z_istore C [(5, .int (nI 0)), (0, .ref (sc)), (1, .ref (ra)), (2, .ref (Ad 0)), (3, .ref (oa)), (4, .int (nI i))] dL_law_307 (by decide) rfl ?_
  refine z_aload_n C dL_law_309 3 rfl ?_
  refine z_aload_n C dL_law_310 1 rfl ?_
  refine z_iload C dL_law_311 5 rfl ?_
  refine z_iconst (v := nI 1) C dL_law_313 (by decide) ?_
  refine zn_iadd C dL_law_314 ?_
  refine z_sld C hX hb0 hA0 (i := i + 1) (by omega) (by omega) hx19 dL_law_315 ?_
  refine z_aload_n C dL_law_316 1 rfl ?_
  refine z_iload C dL_law_317 5 rfl ?_
  refine z_iconst (v := nI 2) C dL_law_319 (by decide) ?_
  refine zn_iadd C dL_law_320 ?_
  refine z_sld C hX hb0 hA0 (i := i + 2) (by omega) (by omega) hx29 dL_law_321 ?_
  refine z_aload_n C dL_law_322 1 rfl ?_
  refine z_iload C dL_law_323 5 rfl ?_
  refine z_iconst (v := nI 3) C dL_law_325 (by decide) ?_
  refine zn_iadd C dL_law_326 ?_
  refine z_sld C hX hb0 hA0 (i := i + 3) (by omega) (by omega) hx39 dL_law_327 ?_
  refine z_aload_n C dL_law_328 1 rfl ?_
  refine z_iload C dL_law_329 5 rfl ?_
  refine z_iconst (v := nI 4) C dL_law_331 (by decide) ?_
  refine zn_iadd C dL_law_332 ?_
  refine z_sld C hX hb0 hA0 (i := i + 4) (by omega) (by omega) hx49 dL_law_333 ?_
  refine z_aload_n C dL_law_334 1 rfl ?_
  refine z_iload C dL_law_335 5 rfl ?_
  refine z_iconst (v := nI 5) C dL_law_337 (by decide) ?_
  refine zn_iadd C dL_law_338 ?_
  refine z_sld C hX hb0 hA0 (i := i + 5) (by omega) (by omega) hx59 dL_law_339 ?_
  refine z_callV C (mX6_append_ok l D κ Ad eo ip w σ aw (hiF h) (hiF s2) ot x1 x2 x3 x4 x5 (by first | assumption | omega)) gL_law_X6_append rfl rfl rfl hdX6_append ⟨(Nat.le_of_ble_eq_true rfl), (Nat.le_of_ble_eq_true rfl)⟩ 0 rfl rfl _ (fun u2 => OUTW κ oa (vp_updL fo 0 (((nI (v 1 + 4 + 4 + 4 + 4 + 4))).toInt64)) ++ (MW κ Ad eo (fdF (fdF (fdF (fdF (fdF ip (w 9) x1) (w 9 + 4) x2) (w 9 + 4 + 4) x3) (w 9 + 4 + 4 + 4) x4) (w 9 + 4 + 4 + 4 + 4) x5) (upN (upN w 9 (w 9 + 4 + 4 + 4 + 4 + 4)) 1 0) σ aw (hiF h) (hiF s2) ot ++ (SW κ (AA 0) g ++ (RC ra (AA 0 0) (AA 1 0) (AA 2 0) la lb (AA 6 0) (AA 5 0) ++ (SW κ (AA 1) f ++ (HO κ (AA 2) hf nx ct ++ (hW κ Hs gh 10 ++ (SW κ (AA 3) g1 ++ (SO la (AA 3 0) f1 ++ (SW κ (AA 4) g2 ++ (SO lb (AA 4 0) f2 ++ (OW κ (AA 5) no ot ++ (SW κ (AA 7) gp ++ PW κ (AA 6) (AA 7) eo (upN v 1 (v 1 + 4 + 4 + 4 + 4 + 4)) (fdF (fdF (fdF (fdF (fdF tx (v 1) x1) (v 1 + 4) x2) (v 1 + 4 + 4) x3) (v 1 + 4 + 4 + 4) x4) (v 1 + 4 + 4 + 4 + 4) x5)))))))))))))) pmM (fun u2 => pmM.symm) rfl (Nat.le_of_ble_eq_true rfl) dL_law_340 ⟨by show _ ≤ 601024; omega, by show _ ≤ 7293034; omega⟩ (fun u2 hu2 => ?_)
  refine z_istore C [(6, .int ((nI (w 9 + 4 + 4 + 4 + 4 + 4)))), (5, .int (nI 0)), (0, .ref (sc)), (1, .ref (ra)), (2, .ref (Ad 0)), (3, .ref (oa)), (4, .int (nI i))] dL_law_343 (by decide) rfl ?_
  refine z_aload_n C dL_law_345 4 rfl ?_
  refine z_callV C (mX6_thrown l D κ Ad eo (fdF (fdF (fdF (fdF (fdF ip (w 9) x1) (w 9 + 4) x2) (w 9 + 4 + 4) x3) (w 9 + 4 + 4 + 4) x4) (w 9 + 4 + 4 + 4 + 4) x5) (upN (upN w 9 (w 9 + 4 + 4 + 4 + 4 + 4)) 1 0) σ aw (hiF h) (hiF s2) ot) gL_law_X6_thrown rfl rfl rfl hdX6_thrown ⟨(Nat.le_of_ble_eq_true rfl), (Nat.le_of_ble_eq_true rfl)⟩ 0 rfl rfl _ (fun _ => OUTW κ oa (vp_updL fo 0 (((nI (v 1 + 4 + 4 + 4 + 4 + 4))).toInt64)) ++ (MW κ Ad eo (fdF (fdF (fdF (fdF (fdF ip (w 9) x1) (w 9 + 4) x2) (w 9 + 4 + 4) x3) (w 9 + 4 + 4 + 4) x4) (w 9 + 4 + 4 + 4 + 4) x5) (upN (upN w 9 (w 9 + 4 + 4 + 4 + 4 + 4)) 1 0) σ aw (hiF h) (hiF s2) ot ++ (SW κ (AA 0) g ++ (RC ra (AA 0 0) (AA 1 0) (AA 2 0) la lb (AA 6 0) (AA 5 0) ++ (SW κ (AA 1) f ++ (HO κ (AA 2) hf nx ct ++ (hW κ Hs gh 10 ++ (SW κ (AA 3) g1 ++ (SO la (AA 3 0) f1 ++ (SW κ (AA 4) g2 ++ (SO lb (AA 4 0) f2 ++ (OW κ (AA 5) no ot ++ (SW κ (AA 7) gp ++ PW κ (AA 6) (AA 7) eo (upN v 1 (v 1 + 4 + 4 + 4 + 4 + 4)) (fdF (fdF (fdF (fdF (fdF tx (v 1) x1) (v 1 + 4) x2) (v 1 + 4 + 4) x3) (v 1 + 4 + 4 + 4) x4) (v 1 + 4 + 4 + 4 + 4) x5)))))))))))))) pmM (fun _ => pmM.symm) rfl (Nat.le_of_ble_eq_true rfl) dL_law_346 ⟨by show _ ≤ 601024; omega, by show _ ≤ 7293034; omega⟩ (fun _ _ => ?_)
  refine z_iload C dL_law_349 1 rfl ?_
  refine z_icmpE C 356 rfl dL_law_351 (by decide) ?_
  refine z_iload C dL_law_356 1 rfl ?_
  refine z_if_ne C 373 dL_law_358 (by decide) (fun q => absurd (by decide) q) (fun _ => ?_)
  refine z_aload_n C dL_law_361 5 rfl ?_
  refine z_iconst (v := nI 0) C dL_law_362 (by decide) ?_
  refine z_lald C 0 4 rfl rfl (i := 0) (by decide) (by decide) dL_law_363 ?_
  refine z_iload C dL_law_364 0 rfl ?_
  refine z_i2l C dL_law_366 rfl ?_
  refine z_lcmpE C (updL_0.trans (by rw [v1])) dL_law_367 ?_
  refine z_if_eq C 373 dL_law_368 (by decide) (fun _ => ?_) (fun q => absurd (by decide) q)
  refine z_goto (tgt := 2685) C dL_law_373 (by decide) ?_
  refine z_lv [2, 3, 4, 5, 6] rfl ?_
  exact K (vp_updL fo 0 (((nI (v 1 + 4 + 4 + 4 + 4 + 4))).toInt64)) g f g1 g2 gp gh nx ct f1 f2 no ot eo (upN v 1 (v 1 + 4 + 4 + 4 + 4 + 4)) (fdF (fdF (fdF (fdF (fdF tx (v 1) x1) (v 1 + 4) x2) (v 1 + 4 + 4) x3) (v 1 + 4 + 4 + 4) x4) (v 1 + 4 + 4 + 4 + 4) x5) (fdF (fdF (fdF (fdF (fdF ip (w 9) x1) (w 9 + 4) x2) (w 9 + 4 + 4) x3) (w 9 + 4 + 4 + 4) x4) (w 9 + 4 + 4 + 4 + 4) x5) (upN (upN w 9 (w 9 + 4 + 4 + 4 + 4 + 4)) 1 0) σ aw h s2 cells slots (by omega) (by omega) (H.app (by omega) (by omega) h1 x1 x2 x3 x4 x5)
set_option maxRecDepth 100000 in
set_option maxHeartbeats 8000000 in
theorem lc_0_no (C : zC p s m args c cL_law 9 wsL_law RL D (zTy κ) A) (hXc : aX adK adV A s s.heap) (hls : l.stackTraces = false) (hX : va_X sc L xs s s.heap) (hb0 : sc < s.heap.size) (hA0 : ¬ A sc) (hhf : ∀ j, j < 10 → hf j = some (Hs j 0)) (hi6 : i + 6 ≤ L) (hL : L ≤ 3072) (hcr : cells + 1 ≤ 601024 ∧ slots + 6 ≤ 7293034) (H : LI M g g1 g2 gh nx ct f1 f2 no v tx ip w σ h s2) (hM1 : 700000 ≤ M) (hM : M ≤ 1400000) (K : LGO p l e s m args below meth c D A Q sc κ ra la lb oa Ad AA Hs hf 2685 (M + 1200) i (cells + 1) (slots + 6)) (x1 : Int32) (x2 : Int32) (x3 : Int32) (x4 : Int32) (x5 : Int32) (h2 : 580 < v 1) (hx19 : xs (i + 1) = x1) (hx29 : xs (i + 2) = x2) (hx39 : xs (i + 3) = x3) (hx49 : xs (i + 4) = x4) (hx59 : xs (i + 5) = x5) : zW p l e RML s m args below meth c 9 D A cells slots Q (LAWW κ ra la lb oa Ad AA Hs hf fo g f g1 g2 gp gh nx ct f1 f2 no ot eo v tx ip w σ aw h s2) [(0, .ref (sc)), (1, .ref (ra)), (2, .ref (Ad 0)), (3, .ref (oa)), (4, .int (nI i))] 272 [] := by
  obtain ⟨hr, hv, ht0⟩ := id H.1
  obtain ⟨hnx, hct, h5, -⟩ := id H.2.1
  obtain ⟨q1, q2, h7, -, -⟩ := id H.2.2.1
  obtain ⟨v1, hw9, v2, ht⟩ := id H.2.2.2.1
  obtain ⟨hno, hn64⟩ := id H.2.2.2.2
  have n1 := hv.n1
  have n2 := hv.n2
  refine z_aload_n C dL_law_272 1 rfl ?_
  refine z_aload_n C dL_law_273 0 rfl ?_
  refine z_iload C dL_law_274 4 rfl ?_
  refine z_iconst (v := nI 1) C dL_law_276 (by decide) ?_
  refine zn_iadd C dL_law_277 ?_
  refine z_sld C hX hb0 hA0 (i := i + 1) (by omega) (by omega) hx19 dL_law_278 ?_
  refine z_aload_n C dL_law_279 0 rfl ?_
  refine z_iload C dL_law_280 4 rfl ?_
  refine z_iconst (v := nI 2) C dL_law_282 (by decide) ?_
  refine zn_iadd C dL_law_283 ?_
  refine z_sld C hX hb0 hA0 (i := i + 2) (by omega) (by omega) hx29 dL_law_284 ?_
  refine z_aload_n C dL_law_285 0 rfl ?_
  refine z_iload C dL_law_286 4 rfl ?_
  refine z_iconst (v := nI 3) C dL_law_288 (by decide) ?_
  refine zn_iadd C dL_law_289 ?_
  refine z_sld C hX hb0 hA0 (i := i + 3) (by omega) (by omega) hx39 dL_law_290 ?_
  refine z_aload_n C dL_law_291 0 rfl ?_
  refine z_iload C dL_law_292 4 rfl ?_
  refine z_iconst (v := nI 4) C dL_law_294 (by decide) ?_
  refine zn_iadd C dL_law_295 ?_
  refine z_sld C hX hb0 hA0 (i := i + 4) (by omega) (by omega) hx49 dL_law_296 ?_
  refine z_aload_n C dL_law_297 0 rfl ?_
  refine z_iload C dL_law_298 4 rfl ?_
  refine z_iconst (v := nI 5) C dL_law_300 (by decide) ?_
  refine zn_iadd C dL_law_301 ?_
  refine z_sld C hX hb0 hA0 (i := i + 5) (by omega) (by omega) hx59 dL_law_302 ?_
  refine z_aload_n C dL_law_303 3 rfl ?_
  refine zh_callS C (aX_ok adK adV) hXc (mL_append_no l D κ adK adV (AA 6) (AA 7) ra (AA 0 0) (AA 1 0) (AA 2 0) la lb (AA 5 0) eo v tx x1 x2 x3 x4 x5 hls (by omega) h2 oa fo) gL_law_L_append rfl rfl rfl hdL_append ⟨(Nat.le_of_ble_eq_true rfl), (Nat.le_of_ble_eq_true rfl)⟩ _ (fun u1 => OUTW κ oa fo ++ (MW κ Ad eo ip w σ aw (hiF h) (hiF s2) ot ++ (SW κ (AA 0) g ++ (RC ra (AA 0 0) (AA 1 0) (AA 2 0) la lb (AA 6 0) (AA 5 0) ++ (SW κ (AA 1) f ++ (HO κ (AA 2) hf nx ct ++ (hW κ Hs gh 10 ++ (SW κ (AA 3) g1 ++ (SO la (AA 3 0) f1 ++ (SW κ (AA 4) g2 ++ (SO lb (AA 4 0) f2 ++ (OW κ (AA 5) no ot ++ (SW κ (AA 7) gp ++ PW κ (AA 6) (AA 7) eo v tx))))))))))))) pmH_p (fun u1 => pmH_p.symm) rfl (Nat.le_of_ble_eq_true rfl) dL_law_304 ⟨by show _ ≤ 601024; omega, by show _ ≤ 7293034; omega⟩ (fun u1 hu1 => ?_)
  refine z_istore C [(5, .int (nI 1)), (0, .ref (sc)), (1, .ref (ra)), (2, .ref (Ad 0)), (3, .ref (oa)), (4, .int (nI i))] dL_law_307 (by decide) rfl ?_
  refine z_aload_n C dL_law_309 3 rfl ?_
  refine z_aload_n C dL_law_310 1 rfl ?_
  refine z_iload C dL_law_311 5 rfl ?_
  refine z_iconst (v := nI 1) C dL_law_313 (by decide) ?_
  refine zn_iadd C dL_law_314 ?_
  refine z_sld C hX hb0 hA0 (i := i + 1) (by omega) (by omega) hx19 dL_law_315 ?_
  refine z_aload_n C dL_law_316 1 rfl ?_
  refine z_iload C dL_law_317 5 rfl ?_
  refine z_iconst (v := nI 2) C dL_law_319 (by decide) ?_
  refine zn_iadd C dL_law_320 ?_
  refine z_sld C hX hb0 hA0 (i := i + 2) (by omega) (by omega) hx29 dL_law_321 ?_
  refine z_aload_n C dL_law_322 1 rfl ?_
  refine z_iload C dL_law_323 5 rfl ?_
  refine z_iconst (v := nI 3) C dL_law_325 (by decide) ?_
  refine zn_iadd C dL_law_326 ?_
  refine z_sld C hX hb0 hA0 (i := i + 3) (by omega) (by omega) hx39 dL_law_327 ?_
  refine z_aload_n C dL_law_328 1 rfl ?_
  refine z_iload C dL_law_329 5 rfl ?_
  refine z_iconst (v := nI 4) C dL_law_331 (by decide) ?_
  refine zn_iadd C dL_law_332 ?_
  refine z_sld C hX hb0 hA0 (i := i + 4) (by omega) (by omega) hx49 dL_law_333 ?_
  refine z_aload_n C dL_law_334 1 rfl ?_
  refine z_iload C dL_law_335 5 rfl ?_
  refine z_iconst (v := nI 5) C dL_law_337 (by decide) ?_
  refine zn_iadd C dL_law_338 ?_
  refine z_sld C hX hb0 hA0 (i := i + 5) (by omega) (by omega) hx59 dL_law_339 ?_
  refine z_callV C (mX6_append_no l D κ Ad eo ip w σ aw (hiF h) (hiF s2) ot x1 x2 x3 x4 x5 (by first | assumption | omega) (by first | assumption | omega)) gL_law_X6_append rfl rfl rfl hdX6_append ⟨(Nat.le_of_ble_eq_true rfl), (Nat.le_of_ble_eq_true rfl)⟩ 0 rfl rfl _ (fun u2 => OUTW κ oa fo ++ (MW κ Ad eo ip (upN w 1 1) σ aw (hiF h) (hiF s2) ot ++ (SW κ (AA 0) g ++ (RC ra (AA 0 0) (AA 1 0) (AA 2 0) la lb (AA 6 0) (AA 5 0) ++ (SW κ (AA 1) f ++ (HO κ (AA 2) hf nx ct ++ (hW κ Hs gh 10 ++ (SW κ (AA 3) g1 ++ (SO la (AA 3 0) f1 ++ (SW κ (AA 4) g2 ++ (SO lb (AA 4 0) f2 ++ (OW κ (AA 5) no ot ++ (SW κ (AA 7) gp ++ PW κ (AA 6) (AA 7) eo v tx))))))))))))) pmM (fun u2 => pmM.symm) rfl (Nat.le_of_ble_eq_true rfl) dL_law_340 ⟨by show _ ≤ 601024; omega, by show _ ≤ 7293034; omega⟩ (fun u2 hu2 => ?_)
  refine z_istore C [(6, .int ((nI 0))), (5, .int (nI 1)), (0, .ref (sc)), (1, .ref (ra)), (2, .ref (Ad 0)), (3, .ref (oa)), (4, .int (nI i))] dL_law_343 (by decide) rfl ?_
  refine z_aload_n C dL_law_345 4 rfl ?_
  refine z_callV C (mX6_thrown l D κ Ad eo ip (upN w 1 1) σ aw (hiF h) (hiF s2) ot) gL_law_X6_thrown rfl rfl rfl hdX6_thrown ⟨(Nat.le_of_ble_eq_true rfl), (Nat.le_of_ble_eq_true rfl)⟩ 0 rfl rfl _ (fun _ => OUTW κ oa fo ++ (MW κ Ad eo ip (upN w 1 1) σ aw (hiF h) (hiF s2) ot ++ (SW κ (AA 0) g ++ (RC ra (AA 0 0) (AA 1 0) (AA 2 0) la lb (AA 6 0) (AA 5 0) ++ (SW κ (AA 1) f ++ (HO κ (AA 2) hf nx ct ++ (hW κ Hs gh 10 ++ (SW κ (AA 3) g1 ++ (SO la (AA 3 0) f1 ++ (SW κ (AA 4) g2 ++ (SO lb (AA 4 0) f2 ++ (OW κ (AA 5) no ot ++ (SW κ (AA 7) gp ++ PW κ (AA 6) (AA 7) eo v tx))))))))))))) pmM (fun _ => pmM.symm) rfl (Nat.le_of_ble_eq_true rfl) dL_law_346 ⟨by show _ ≤ 601024; omega, by show _ ≤ 7293034; omega⟩ (fun _ _ => ?_)
  refine z_iload C dL_law_349 1 rfl ?_
  refine z_icmpE C 356 rfl dL_law_351 (by decide) ?_
  refine z_iload C dL_law_356 1 rfl ?_
  refine z_if_ne C 373 dL_law_358 (by decide) (fun _ => ?_) (fun q => absurd q (by decide))
  refine z_goto (tgt := 2685) C dL_law_373 (by decide) ?_
  refine z_lv [2, 3, 4, 5, 6] rfl ?_
  exact K fo g f g1 g2 gp gh nx ct f1 f2 no ot eo v tx ip (upN w 1 1) σ aw h s2 (cells + 1) (slots + 6) (by omega) (by omega) ((H.mono (by omega) (by omega)).w1 _)
set_option maxRecDepth 100000 in
set_option maxHeartbeats 8000000 in
theorem lc_1_ok (C : zC p s m args c cL_law 9 wsL_law RL D (zTy κ) A) (hXc : aX adK adV A s s.heap) (hls : l.stackTraces = false) (hX : va_X sc L xs s s.heap) (hb0 : sc < s.heap.size) (hA0 : ¬ A sc) (hhf : ∀ j, j < 10 → hf j = some (Hs j 0)) (hi6 : i + 6 ≤ L) (hL : L ≤ 3072) (hcr : cells + 1 ≤ 601024 ∧ slots + 6 ≤ 7293034) (H : LI M g g1 g2 gh nx ct f1 f2 no v tx ip w σ h s2) (hM1 : 700000 ≤ M) (hM : M ≤ 1400000) (K : LGO p l e s m args below meth c D A Q sc κ ra la lb oa Ad AA Hs hf 2685 (M + 1200) i (cells + 1) (slots + 6)) (n : Nat) (τ : Nat → Nat) (hn : n ≤ v 1) (hpt : pText tx n = .inr τ) (hx19 : xs (i + 1) = nI n) : zW p l e RML s m args below meth c 9 D A cells slots Q (LAWW κ ra la lb oa Ad AA Hs hf fo g f g1 g2 gp gh nx ct f1 f2 no ot eo v tx ip w σ aw h s2) [(0, .ref (sc)), (1, .ref (ra)), (2, .ref (Ad 0)), (3, .ref (oa)), (4, .int (nI i))] 376 [] := by
  obtain ⟨hr, hv, ht0⟩ := id H.1
  obtain ⟨hnx, hct, h5, -⟩ := id H.2.1
  obtain ⟨q1, q2, h7, -, -⟩ := id H.2.2.1
  obtain ⟨v1, hw9, v2, ht⟩ := id H.2.2.2.1
  obtain ⟨hno, hn64⟩ := id H.2.2.2.2
  have n1 := hv.n1
  have n2 := hv.n2
  refine z_aload_n C dL_law_376 1 rfl ?_
  refine z_aload_n C dL_law_377 0 rfl ?_
  refine z_iload C dL_law_378 4 rfl ?_
  refine z_iconst (v := nI 1) C dL_law_380 (by decide) ?_
  refine zn_iadd C dL_law_381 ?_
  refine z_sld C hX hb0 hA0 (i := i + 1) (by omega) (by omega) hx19 dL_law_382 ?_
  refine z_aload_n C dL_law_383 3 rfl ?_
  refine zh_callS C (aX_ok adK adV) hXc (mL_load_ok l D κ adK adV (AA 0) (AA 2) (AA 6) (AA 7) hf ra (AA 1 0) la lb (AA 5 0) (AA 3 0) (AA 4 0) nx ct f1 f2 g gp eo v tx n τ hn (by omega) hpt oa fo) gL_law_L_load rfl rfl rfl hdL_load ⟨(Nat.le_of_ble_eq_true rfl), (Nat.le_of_ble_eq_true rfl)⟩ _ (fun u1 => OUTW κ oa (vp_updL fo 0 (((nI (τ 1))).toInt64)) ++ (MW κ Ad eo ip w σ aw (hiF h) (hiF s2) ot ++ (SW κ (AA 0) u1.1 ++ (RC ra (AA 0 0) (AA 1 0) (AA 2 0) la lb (AA 6 0) (AA 5 0) ++ (SW κ (AA 1) f ++ (HO κ (AA 2) hf nx 0 ++ (hW κ Hs gh 10 ++ (SW κ (AA 3) g1 ++ (SO la (AA 3 0) 0 ++ (SW κ (AA 4) g2 ++ (SO lb (AA 4 0) 0 ++ (OW κ (AA 5) no ot ++ (SW κ (AA 7) u1.2.1 ++ PW κ (AA 6) (AA 7) u1.2.2.1 u1.2.2.2 tx))))))))))))) pmH_l (fun u1 => pmH_l.symm) rfl (Nat.le_of_ble_eq_true rfl) dL_law_384 ⟨by show _ ≤ 601024; omega, by show _ ≤ 7293034; omega⟩ (fun u1 hu1 => ?_)
  obtain ⟨g9, gp9, eo9, v9⟩ := u1
  dsimp only at hu1 ⊢
  obtain ⟨hu1, hu2, hu3, rfl, hu5, hu6⟩ := hu1
  refine z_istore C [(5, .int (nI 0)), (0, .ref (sc)), (1, .ref (ra)), (2, .ref (Ad 0)), (3, .ref (oa)), (4, .int (nI i))] dL_law_387 (by decide) rfl ?_
  refine z_aload_n C dL_law_389 3 rfl ?_
  refine z_aload_n C dL_law_390 1 rfl ?_
  refine z_iload C dL_law_391 5 rfl ?_
  refine z_iconst (v := nI 1) C dL_law_393 (by decide) ?_
  refine zn_iadd C dL_law_394 ?_
  refine z_sld C hX hb0 hA0 (i := i + 1) (by omega) (by omega) hx19 dL_law_395 ?_
  refine z_callV C (mX6_load_ok l D κ Ad eo ip w σ aw (hiF h) (hiF s2) ot n τ (by first | assumption | omega) hw9 ((pText_loc (fun j hj => ht j (by omega))).symm.trans hpt)) gL_law_X6_load rfl rfl rfl hdX6_load ⟨(Nat.le_of_ble_eq_true rfl), (Nat.le_of_ble_eq_true rfl)⟩ 0 rfl rfl _ (fun u2 => OUTW κ oa (vp_updL fo 0 (((nI (τ 1))).toInt64)) ++ (MW κ Ad (-1) ip u2 τ σ (hiF h) (hiF s2) ot ++ (SW κ (AA 0) g9 ++ (RC ra (AA 0 0) (AA 1 0) (AA 2 0) la lb (AA 6 0) (AA 5 0) ++ (SW κ (AA 1) f ++ (HO κ (AA 2) hf nx 0 ++ (hW κ Hs gh 10 ++ (SW κ (AA 3) g1 ++ (SO la (AA 3 0) 0 ++ (SW κ (AA 4) g2 ++ (SO lb (AA 4 0) 0 ++ (OW κ (AA 5) no ot ++ (SW κ (AA 7) gp9 ++ PW κ (AA 6) (AA 7) (-1) v9 tx))))))))))))) pmM (fun u2 => pmM.symm) rfl (Nat.le_of_ble_eq_true rfl) dL_law_396 ⟨by show _ ≤ 601024; omega, by show _ ≤ 7293034; omega⟩ (fun u2 hu9 => ?_)
  have hu7 : Fy _ u2 := hu9
  refine z_istore C [(6, .int ((nI (τ 1)))), (5, .int (nI 0)), (0, .ref (sc)), (1, .ref (ra)), (2, .ref (Ad 0)), (3, .ref (oa)), (4, .int (nI i))] dL_law_399 (by decide) rfl ?_
  refine z_aload_n C dL_law_401 4 rfl ?_
  refine z_callV C (mX6_thrown l D κ Ad (-1) ip u2 τ σ (hiF h) (hiF s2) ot) gL_law_X6_thrown rfl rfl rfl hdX6_thrown ⟨(Nat.le_of_ble_eq_true rfl), (Nat.le_of_ble_eq_true rfl)⟩ 0 rfl rfl _ (fun _ => OUTW κ oa (vp_updL fo 0 (((nI (τ 1))).toInt64)) ++ (MW κ Ad (-1) ip u2 τ σ (hiF h) (hiF s2) ot ++ (SW κ (AA 0) g9 ++ (RC ra (AA 0 0) (AA 1 0) (AA 2 0) la lb (AA 6 0) (AA 5 0) ++ (SW κ (AA 1) f ++ (HO κ (AA 2) hf nx 0 ++ (hW κ Hs gh 10 ++ (SW κ (AA 3) g1 ++ (SO la (AA 3 0) 0 ++ (SW κ (AA 4) g2 ++ (SO lb (AA 4 0) 0 ++ (OW κ (AA 5) no ot ++ (SW κ (AA 7) gp9 ++ PW κ (AA 6) (AA 7) (-1) v9 tx))))))))))))) pmM (fun _ => pmM.symm) rfl (Nat.le_of_ble_eq_true rfl) dL_law_402 ⟨by show _ ≤ 601024; omega, by show _ ≤ 7293034; omega⟩ (fun _ _ => ?_)
  refine z_iload C dL_law_405 1 rfl ?_
  refine z_icmpE C 412 (by rw [show u2 1 = _ from hu7 1 (by decide)]; rfl) dL_law_407 (by decide) ?_
  refine z_iload C dL_law_412 1 rfl ?_
  refine z_if_ne C 429 dL_law_414 (by decide) (fun q => absurd (by decide) q) (fun _ => ?_)
  refine z_aload_n C dL_law_417 5 rfl ?_
  refine z_iconst (v := nI 0) C dL_law_418 (by decide) ?_
  refine z_lald C 0 4 rfl rfl (i := 0) (by decide) (by decide) dL_law_419 ?_
  refine z_iload C dL_law_420 0 rfl ?_
  refine z_i2l C dL_law_422 rfl ?_
  refine z_lcmpE C (updL_0) dL_law_423 ?_
  refine z_if_eq C 429 dL_law_424 (by decide) (fun _ => ?_) (fun q => absurd (by decide) q)
  refine z_goto (tgt := 2685) C dL_law_429 (by decide) ?_
  refine z_lv [2, 3, 4, 5, 6] rfl ?_
  exact K (vp_updL fo 0 (((nI (τ 1))).toInt64)) g9 f g1 g2 gp9 gh nx 0 0 0 no ot (-1) v9 tx ip u2 τ σ h s2 cells slots (by omega) (by omega) (H.ld (by omega) (by omega) (show n ≤ 600 by omega) hu1 hu2 hu3 hu5 hu6 hu7)
set_option maxRecDepth 100000 in
set_option maxHeartbeats 8000000 in
theorem lc_1_err (C : zC p s m args c cL_law 9 wsL_law RL D (zTy κ) A) (hXc : aX adK adV A s s.heap) (hls : l.stackTraces = false) (hX : va_X sc L xs s s.heap) (hb0 : sc < s.heap.size) (hA0 : ¬ A sc) (hhf : ∀ j, j < 10 → hf j = some (Hs j 0)) (hi6 : i + 6 ≤ L) (hL : L ≤ 3072) (hcr : cells + 1 ≤ 601024 ∧ slots + 6 ≤ 7293034) (H : LI M g g1 g2 gh nx ct f1 f2 no v tx ip w σ h s2) (hM1 : 700000 ≤ M) (hM : M ≤ 1400000) (K : LGO p l e s m args below meth c D A Q sc κ ra la lb oa Ad AA Hs hf 2685 (M + 1200) i (cells + 1) (slots + 6)) (n : Nat) (c0 : Nat) (e0 : Nat) (hn : n ≤ v 1) (hpt : pText tx n = .inl (c0, e0)) (hx19 : xs (i + 1) = nI n) : zW p l e RML s m args below meth c 9 D A cells slots Q (LAWW κ ra la lb oa Ad AA Hs hf fo g f g1 g2 gp gh nx ct f1 f2 no ot eo v tx ip w σ aw h s2) [(0, .ref (sc)), (1, .ref (ra)), (2, .ref (Ad 0)), (3, .ref (oa)), (4, .int (nI i))] 376 [] := by
  obtain ⟨hr, hv, ht0⟩ := id H.1
  obtain ⟨hnx, hct, h5, -⟩ := id H.2.1
  obtain ⟨q1, q2, h7, -, -⟩ := id H.2.2.1
  obtain ⟨v1, hw9, v2, ht⟩ := id H.2.2.2.1
  obtain ⟨hno, hn64⟩ := id H.2.2.2.2
  have n1 := hv.n1
  have n2 := hv.n2
  refine z_aload_n C dL_law_376 1 rfl ?_
  refine z_aload_n C dL_law_377 0 rfl ?_
  refine z_iload C dL_law_378 4 rfl ?_
  refine z_iconst (v := nI 1) C dL_law_380 (by decide) ?_
  refine zn_iadd C dL_law_381 ?_
  refine z_sld C hX hb0 hA0 (i := i + 1) (by omega) (by omega) hx19 dL_law_382 ?_
  refine z_aload_n C dL_law_383 3 rfl ?_
  refine zh_callS C (aX_ok adK adV) hXc (mL_load_err l D κ adK adV (AA 0) (AA 2) (AA 6) (AA 7) hf ra (AA 1 0) la lb (AA 5 0) (AA 3 0) (AA 4 0) nx ct f1 f2 g gp eo v tx n c0 e0 hls hn (by omega) hpt oa fo) gL_law_L_load rfl rfl rfl hdL_load ⟨(Nat.le_of_ble_eq_true rfl), (Nat.le_of_ble_eq_true rfl)⟩ _ (fun u1 => OUTW κ oa fo ++ (MW κ Ad eo ip w σ aw (hiF h) (hiF s2) ot ++ (SW κ (AA 0) g ++ (RC ra (AA 0 0) (AA 1 0) (AA 2 0) la lb (AA 6 0) (AA 5 0) ++ (SW κ (AA 1) f ++ (HO κ (AA 2) hf nx ct ++ (hW κ Hs gh 10 ++ (SW κ (AA 3) g1 ++ (SO la (AA 3 0) f1 ++ (SW κ (AA 4) g2 ++ (SO lb (AA 4 0) f2 ++ (OW κ (AA 5) no ot ++ (SW κ (AA 7) u1.1 ++ PW κ (AA 6) (AA 7) u1.2.1 u1.2.2 tx))))))))))))) pmH_l (fun u1 => pmH_l.symm) rfl (Nat.le_of_ble_eq_true rfl) dL_law_384 ⟨by show _ ≤ 601024; omega, by show _ ≤ 7293034; omega⟩ (fun u1 hu1 => ?_)
  obtain ⟨gp9, eo9, v9⟩ := u1
  dsimp only at hu1 ⊢
  obtain ⟨rfl, hu5, hu6⟩ := hu1
  refine z_istore C [(5, .int (nI 2)), (0, .ref (sc)), (1, .ref (ra)), (2, .ref (Ad 0)), (3, .ref (oa)), (4, .int (nI i))] dL_law_387 (by decide) rfl ?_
  refine z_aload_n C dL_law_389 3 rfl ?_
  refine z_aload_n C dL_law_390 1 rfl ?_
  refine z_iload C dL_law_391 5 rfl ?_
  refine z_iconst (v := nI 1) C dL_law_393 (by decide) ?_
  refine zn_iadd C dL_law_394 ?_
  refine z_sld C hX hb0 hA0 (i := i + 1) (by omega) (by omega) hx19 dL_law_395 ?_
  refine z_callV C (mX6_load_err l D κ Ad eo ip w σ aw (hiF h) (hiF s2) ot n c0 e0 (by first | assumption | omega) hw9 ((pText_loc (fun j hj => ht j (by omega))).symm.trans hpt)) gL_law_X6_load rfl rfl rfl hdX6_load ⟨(Nat.le_of_ble_eq_true rfl), (Nat.le_of_ble_eq_true rfl)⟩ 0 rfl rfl _ (fun u2 => OUTW κ oa fo ++ (MW κ Ad (nI e0) ip u2 σ σ (hiF h) (hiF s2) ot ++ (SW κ (AA 0) g ++ (RC ra (AA 0 0) (AA 1 0) (AA 2 0) la lb (AA 6 0) (AA 5 0) ++ (SW κ (AA 1) f ++ (HO κ (AA 2) hf nx ct ++ (hW κ Hs gh 10 ++ (SW κ (AA 3) g1 ++ (SO la (AA 3 0) f1 ++ (SW κ (AA 4) g2 ++ (SO lb (AA 4 0) f2 ++ (OW κ (AA 5) no ot ++ (SW κ (AA 7) gp9 ++ PW κ (AA 6) (AA 7) (nI e0) v9 tx))))))))))))) pmM (fun u2 => pmM.symm) rfl (Nat.le_of_ble_eq_true rfl) dL_law_396 ⟨by show _ ≤ 601024; omega, by show _ ≤ 7293034; omega⟩ (fun u2 hu2 => ?_)
  refine z_istore C [(6, .int ((nI 0))), (5, .int (nI 2)), (0, .ref (sc)), (1, .ref (ra)), (2, .ref (Ad 0)), (3, .ref (oa)), (4, .int (nI i))] dL_law_399 (by decide) rfl ?_
  refine z_aload_n C dL_law_401 4 rfl ?_
  refine z_callV C (mX6_thrown l D κ Ad (nI e0) ip u2 σ σ (hiF h) (hiF s2) ot) gL_law_X6_thrown rfl rfl rfl hdX6_thrown ⟨(Nat.le_of_ble_eq_true rfl), (Nat.le_of_ble_eq_true rfl)⟩ 0 rfl rfl _ (fun _ => OUTW κ oa fo ++ (MW κ Ad (nI e0) ip u2 σ σ (hiF h) (hiF s2) ot ++ (SW κ (AA 0) g ++ (RC ra (AA 0 0) (AA 1 0) (AA 2 0) la lb (AA 6 0) (AA 5 0) ++ (SW κ (AA 1) f ++ (HO κ (AA 2) hf nx ct ++ (hW κ Hs gh 10 ++ (SW κ (AA 3) g1 ++ (SO la (AA 3 0) f1 ++ (SW κ (AA 4) g2 ++ (SO lb (AA 4 0) f2 ++ (OW κ (AA 5) no ot ++ (SW κ (AA 7) gp9 ++ PW κ (AA 6) (AA 7) (nI e0) v9 tx))))))))))))) pmM (fun _ => pmM.symm) rfl (Nat.le_of_ble_eq_true rfl) dL_law_402 ⟨by show _ ≤ 601024; omega, by show _ ≤ 7293034; omega⟩ (fun _ _ => ?_)
  refine z_iload C dL_law_405 1 rfl ?_
  refine z_icmpE C 412 (by rw [show u2 1 = _ from hu2 1 (by decide)]; rfl) dL_law_407 (by decide) ?_
  refine z_iload C dL_law_412 1 rfl ?_
  refine z_if_ne C 429 dL_law_414 (by decide) (fun _ => ?_) (fun q => absurd q (by decide))
  refine z_goto (tgt := 2685) C dL_law_429 (by decide) ?_
  refine z_lv [2, 3, 4, 5, 6] rfl ?_
  exact K fo g f g1 g2 gp9 gh nx ct f1 f2 no ot (nI e0) v9 tx ip u2 σ σ h s2 (cells + 1) (slots + 6) (by omega) (by omega) (H.lerr (by omega) (by omega) hu5 hu6 hu2)
set_option maxRecDepth 100000 in
set_option maxHeartbeats 8000000 in
theorem lc_1_no (C : zC p s m args c cL_law 9 wsL_law RL D (zTy κ) A) (hXc : aX adK adV A s s.heap) (hls : l.stackTraces = false) (hX : va_X sc L xs s s.heap) (hb0 : sc < s.heap.size) (hA0 : ¬ A sc) (hhf : ∀ j, j < 10 → hf j = some (Hs j 0)) (hi6 : i + 6 ≤ L) (hL : L ≤ 3072) (hcr : cells + 1 ≤ 601024 ∧ slots + 6 ≤ 7293034) (H : LI M g g1 g2 gh nx ct f1 f2 no v tx ip w σ h s2) (hM1 : 700000 ≤ M) (hM : M ≤ 1400000) (K : LGO p l e s m args below meth c D A Q sc κ ra la lb oa Ad AA Hs hf 2685 (M + 1200) i (cells + 1) (slots + 6)) (x : Int32) (hx : isB (v 1 + 1) x = false) (hx19 : xs (i + 1) = x) : zW p l e RML s m args below meth c 9 D A cells slots Q (LAWW κ ra la lb oa Ad AA Hs hf fo g f g1 g2 gp gh nx ct f1 f2 no ot eo v tx ip w σ aw h s2) [(0, .ref (sc)), (1, .ref (ra)), (2, .ref (Ad 0)), (3, .ref (oa)), (4, .int (nI i))] 376 [] := by
  obtain ⟨hr, hv, ht0⟩ := id H.1
  obtain ⟨hnx, hct, h5, -⟩ := id H.2.1
  obtain ⟨q1, q2, h7, -, -⟩ := id H.2.2.1
  obtain ⟨v1, hw9, v2, ht⟩ := id H.2.2.2.1
  obtain ⟨hno, hn64⟩ := id H.2.2.2.2
  have n1 := hv.n1
  have n2 := hv.n2
  refine z_aload_n C dL_law_376 1 rfl ?_
  refine z_aload_n C dL_law_377 0 rfl ?_
  refine z_iload C dL_law_378 4 rfl ?_
  refine z_iconst (v := nI 1) C dL_law_380 (by decide) ?_
  refine zn_iadd C dL_law_381 ?_
  refine z_sld C hX hb0 hA0 (i := i + 1) (by omega) (by omega) hx19 dL_law_382 ?_
  refine z_aload_n C dL_law_383 3 rfl ?_
  refine zh_callS C (aX_ok adK adV) hXc (mL_load_no l D κ adK adV (AA 6) (AA 7) ra (AA 0 0) (AA 1 0) (AA 2 0) la lb (AA 5 0) eo v tx x hls (by omega) hx oa fo) gL_law_L_load rfl rfl rfl hdL_load ⟨(Nat.le_of_ble_eq_true rfl), (Nat.le_of_ble_eq_true rfl)⟩ _ (fun u1 => OUTW κ oa fo ++ (MW κ Ad eo ip w σ aw (hiF h) (hiF s2) ot ++ (SW κ (AA 0) g ++ (RC ra (AA 0 0) (AA 1 0) (AA 2 0) la lb (AA 6 0) (AA 5 0) ++ (SW κ (AA 1) f ++ (HO κ (AA 2) hf nx ct ++ (hW κ Hs gh 10 ++ (SW κ (AA 3) g1 ++ (SO la (AA 3 0) f1 ++ (SW κ (AA 4) g2 ++ (SO lb (AA 4 0) f2 ++ (OW κ (AA 5) no ot ++ (SW κ (AA 7) gp ++ PW κ (AA 6) (AA 7) eo v tx))))))))))))) pmH_p (fun u1 => pmH_p.symm) rfl (Nat.le_of_ble_eq_true rfl) dL_law_384 ⟨by show _ ≤ 601024; omega, by show _ ≤ 7293034; omega⟩ (fun u1 hu1 => ?_)
  refine z_istore C [(5, .int (nI 1)), (0, .ref (sc)), (1, .ref (ra)), (2, .ref (Ad 0)), (3, .ref (oa)), (4, .int (nI i))] dL_law_387 (by decide) rfl ?_
  refine z_aload_n C dL_law_389 3 rfl ?_
  refine z_aload_n C dL_law_390 1 rfl ?_
  refine z_iload C dL_law_391 5 rfl ?_
  refine z_iconst (v := nI 1) C dL_law_393 (by decide) ?_
  refine zn_iadd C dL_law_394 ?_
  refine z_sld C hX hb0 hA0 (i := i + 1) (by omega) (by omega) hx19 dL_law_395 ?_
  refine z_callV C (mX6_load_no l D κ Ad eo ip w σ aw (hiF h) (hiF s2) ot M x hv.1 (by rw [← v1]; exact hx) hw9) gL_law_X6_load rfl rfl rfl hdX6_load ⟨(Nat.le_of_ble_eq_true rfl), (Nat.le_of_ble_eq_true rfl)⟩ 0 rfl rfl _ (fun u2 => OUTW κ oa fo ++ (MW κ Ad eo ip (upN w 1 1) σ aw (hiF h) (hiF s2) ot ++ (SW κ (AA 0) g ++ (RC ra (AA 0 0) (AA 1 0) (AA 2 0) la lb (AA 6 0) (AA 5 0) ++ (SW κ (AA 1) f ++ (HO κ (AA 2) hf nx ct ++ (hW κ Hs gh 10 ++ (SW κ (AA 3) g1 ++ (SO la (AA 3 0) f1 ++ (SW κ (AA 4) g2 ++ (SO lb (AA 4 0) f2 ++ (OW κ (AA 5) no ot ++ (SW κ (AA 7) gp ++ PW κ (AA 6) (AA 7) eo v tx))))))))))))) pmM (fun u2 => pmM.symm) rfl (Nat.le_of_ble_eq_true rfl) dL_law_396 ⟨by show _ ≤ 601024; omega, by show _ ≤ 7293034; omega⟩ (fun u2 hu2 => ?_)
  refine z_istore C [(6, .int ((nI 0))), (5, .int (nI 1)), (0, .ref (sc)), (1, .ref (ra)), (2, .ref (Ad 0)), (3, .ref (oa)), (4, .int (nI i))] dL_law_399 (by decide) rfl ?_
  refine z_aload_n C dL_law_401 4 rfl ?_
  refine z_callV C (mX6_thrown l D κ Ad eo ip (upN w 1 1) σ aw (hiF h) (hiF s2) ot) gL_law_X6_thrown rfl rfl rfl hdX6_thrown ⟨(Nat.le_of_ble_eq_true rfl), (Nat.le_of_ble_eq_true rfl)⟩ 0 rfl rfl _ (fun _ => OUTW κ oa fo ++ (MW κ Ad eo ip (upN w 1 1) σ aw (hiF h) (hiF s2) ot ++ (SW κ (AA 0) g ++ (RC ra (AA 0 0) (AA 1 0) (AA 2 0) la lb (AA 6 0) (AA 5 0) ++ (SW κ (AA 1) f ++ (HO κ (AA 2) hf nx ct ++ (hW κ Hs gh 10 ++ (SW κ (AA 3) g1 ++ (SO la (AA 3 0) f1 ++ (SW κ (AA 4) g2 ++ (SO lb (AA 4 0) f2 ++ (OW κ (AA 5) no ot ++ (SW κ (AA 7) gp ++ PW κ (AA 6) (AA 7) eo v tx))))))))))))) pmM (fun _ => pmM.symm) rfl (Nat.le_of_ble_eq_true rfl) dL_law_402 ⟨by show _ ≤ 601024; omega, by show _ ≤ 7293034; omega⟩ (fun _ _ => ?_)
  refine z_iload C dL_law_405 1 rfl ?_
  refine z_icmpE C 412 rfl dL_law_407 (by decide) ?_
  refine z_iload C dL_law_412 1 rfl ?_
  refine z_if_ne C 429 dL_law_414 (by decide) (fun _ => ?_) (fun q => absurd q (by decide))
  refine z_goto (tgt := 2685) C dL_law_429 (by decide) ?_
  refine z_lv [2, 3, 4, 5, 6] rfl ?_
  exact K fo g f g1 g2 gp gh nx ct f1 f2 no ot eo v tx ip (upN w 1 1) σ aw h s2 (cells + 1) (slots + 6) (by omega) (by omega) ((H.mono (by omega) (by omega)).w1 _)
set_option maxRecDepth 100000 in
set_option maxHeartbeats 8000000 in
theorem lc_2 (C : zC p s m args c cL_law 9 wsL_law RL D (zTy κ) A) (hXc : aX adK adV A s s.heap) (hls : l.stackTraces = false) (hX : va_X sc L xs s s.heap) (hb0 : sc < s.heap.size) (hA0 : ¬ A sc) (hhf : ∀ j, j < 10 → hf j = some (Hs j 0)) (hi6 : i + 6 ≤ L) (hL : L ≤ 3072) (hcr : cells + 1 ≤ 601024 ∧ slots + 6 ≤ 7293034) (H : LI M g g1 g2 gh nx ct f1 f2 no v tx ip w σ h s2) (hM1 : 700000 ≤ M) (hM : M ≤ 1400000) (K : LGO p l e s m args below meth c D A Q sc κ ra la lb oa Ad AA Hs hf 2685 (M + 1200) i (cells + 1) (slots + 6))   : zW p l e RML s m args below meth c 9 D A cells slots Q (LAWW κ ra la lb oa Ad AA Hs hf fo g f g1 g2 gp gh nx ct f1 f2 no ot eo v tx ip w σ aw h s2) [(0, .ref (sc)), (1, .ref (ra)), (2, .ref (Ad 0)), (3, .ref (oa)), (4, .int (nI i))] 432 [] := by
  obtain ⟨hr, hv, ht0⟩ := id H.1
  obtain ⟨hnx, hct, h5, -⟩ := id H.2.1
  obtain ⟨q1, q2, h7, -, -⟩ := id H.2.2.1
  obtain ⟨v1, hw9, v2, ht⟩ := id H.2.2.2.1
  obtain ⟨hno, hn64⟩ := id H.2.2.2.2
  have n1 := hv.n1
  have n2 := hv.n2
  refine z_aload_n C dL_law_432 1 rfl ?_
  refine z_callV C (mX5_errorKind l D κ (AA 6) (AA 7) ra (AA 0 0) (AA 1 0) (AA 2 0) la lb (AA 5 0) eo v tx) gL_law_X5_errorKind rfl rfl rfl hdX5_errorKind ⟨(Nat.le_of_ble_eq_true rfl), (Nat.le_of_ble_eq_true rfl)⟩ 0 rfl rfl _ (fun u1 => OUTW κ oa fo ++ (MW κ Ad eo ip w σ aw (hiF h) (hiF s2) ot ++ (SW κ (AA 0) g ++ (RC ra (AA 0 0) (AA 1 0) (AA 2 0) la lb (AA 6 0) (AA 5 0) ++ (SW κ (AA 1) f ++ (HO κ (AA 2) hf nx ct ++ (hW κ Hs gh 10 ++ (SW κ (AA 3) g1 ++ (SO la (AA 3 0) f1 ++ (SW κ (AA 4) g2 ++ (SO lb (AA 4 0) f2 ++ (OW κ (AA 5) no ot ++ (SW κ (AA 7) gp ++ PW κ (AA 6) (AA 7) eo v tx))))))))))))) pmX_p (fun u1 => pmX_p.symm) rfl (Nat.le_of_ble_eq_true rfl) dL_law_433 ⟨by show _ ≤ 601024; omega, by show _ ≤ 7293034; omega⟩ (fun u1 hu1 => ?_)
  refine z_aload_n C dL_law_436 2 rfl ?_
  refine z_callV C (mX6_errorKind l D κ Ad eo ip w σ aw (hiF h) (hiF s2) ot M hv.1) gL_law_X6_errorKind rfl rfl rfl hdX6_errorKind ⟨(Nat.le_of_ble_eq_true rfl), (Nat.le_of_ble_eq_true rfl)⟩ 0 rfl rfl _ (fun u2 => OUTW κ oa fo ++ (MW κ Ad eo ip (upN w 1 0) σ aw (hiF h) (hiF s2) ot ++ (SW κ (AA 0) g ++ (RC ra (AA 0 0) (AA 1 0) (AA 2 0) la lb (AA 6 0) (AA 5 0) ++ (SW κ (AA 1) f ++ (HO κ (AA 2) hf nx ct ++ (hW κ Hs gh 10 ++ (SW κ (AA 3) g1 ++ (SO la (AA 3 0) f1 ++ (SW κ (AA 4) g2 ++ (SO lb (AA 4 0) f2 ++ (OW κ (AA 5) no ot ++ (SW κ (AA 7) gp ++ PW κ (AA 6) (AA 7) eo v tx))))))))))))) pmM (fun u2 => pmM.symm) rfl (Nat.le_of_ble_eq_true rfl) dL_law_437 ⟨by show _ ≤ 601024; omega, by show _ ≤ 7293034; omega⟩ (fun u2 hu2 => ?_)
  refine z_icmpE C 2685 (by rw [v2]) dL_law_440 (by decide) ?_
  refine z_lv [0, 1, 2, 3, 4] rfl ?_
  exact K fo g f g1 g2 gp gh nx ct f1 f2 no ot eo v tx ip (upN w 1 0) σ aw h s2 cells slots (by omega) (by omega) ((H.mono (by omega) (by omega)).w1 _)
set_option maxRecDepth 100000 in
set_option maxHeartbeats 8000000 in
theorem lc_3 (C : zC p s m args c cL_law 9 wsL_law RL D (zTy κ) A) (hXc : aX adK adV A s s.heap) (hls : l.stackTraces = false) (hX : va_X sc L xs s s.heap) (hb0 : sc < s.heap.size) (hA0 : ¬ A sc) (hhf : ∀ j, j < 10 → hf j = some (Hs j 0)) (hi6 : i + 6 ≤ L) (hL : L ≤ 3072) (hcr : cells + 1 ≤ 601024 ∧ slots + 6 ≤ 7293034) (H : LI M g g1 g2 gh nx ct f1 f2 no v tx ip w σ h s2) (hM1 : 700000 ≤ M) (hM : M ≤ 1400000) (K : LGO p l e s m args below meth c D A Q sc κ ra la lb oa Ad AA Hs hf 2685 (M + 1200) i (cells + 1) (slots + 6))   : zW p l e RML s m args below meth c 9 D A cells slots Q (LAWW κ ra la lb oa Ad AA Hs hf fo g f g1 g2 gp gh nx ct f1 f2 no ot eo v tx ip w σ aw h s2) [(0, .ref (sc)), (1, .ref (ra)), (2, .ref (Ad 0)), (3, .ref (oa)), (4, .int (nI i))] 445 [] := by
  obtain ⟨hr, hv, ht0⟩ := id H.1
  obtain ⟨hnx, hct, h5, -⟩ := id H.2.1
  obtain ⟨q1, q2, h7, -, -⟩ := id H.2.2.1
  obtain ⟨v1, hw9, v2, ht⟩ := id H.2.2.2.1
  obtain ⟨hno, hn64⟩ := id H.2.2.2.2
  have n1 := hv.n1
  have n2 := hv.n2
  refine z_aload_n C dL_law_445 1 rfl ?_
  refine z_callV C (mX5_errorOffset l D κ (AA 6) (AA 7) ra (AA 0 0) (AA 1 0) (AA 2 0) la lb (AA 5 0) eo v tx) gL_law_X5_errorOffset rfl rfl rfl hdX5_errorOffset ⟨(Nat.le_of_ble_eq_true rfl), (Nat.le_of_ble_eq_true rfl)⟩ 0 rfl rfl _ (fun u1 => OUTW κ oa fo ++ (MW κ Ad eo ip w σ aw (hiF h) (hiF s2) ot ++ (SW κ (AA 0) g ++ (RC ra (AA 0 0) (AA 1 0) (AA 2 0) la lb (AA 6 0) (AA 5 0) ++ (SW κ (AA 1) f ++ (HO κ (AA 2) hf nx ct ++ (hW κ Hs gh 10 ++ (SW κ (AA 3) g1 ++ (SO la (AA 3 0) f1 ++ (SW κ (AA 4) g2 ++ (SO lb (AA 4 0) f2 ++ (OW κ (AA 5) no ot ++ (SW κ (AA 7) gp ++ PW κ (AA 6) (AA 7) eo v tx))))))))))))) pmX_p (fun u1 => pmX_p.symm) rfl (Nat.le_of_ble_eq_true rfl) dL_law_446 ⟨by show _ ≤ 601024; omega, by show _ ≤ 7293034; omega⟩ (fun u1 hu1 => ?_)
  refine z_aload_n C dL_law_449 2 rfl ?_
  refine z_callV C (mX6_errorOffset l D κ Ad eo ip w σ aw (hiF h) (hiF s2) ot M hv.1) gL_law_X6_errorOffset rfl rfl rfl hdX6_errorOffset ⟨(Nat.le_of_ble_eq_true rfl), (Nat.le_of_ble_eq_true rfl)⟩ 0 rfl rfl _ (fun u2 => OUTW κ oa fo ++ (MW κ Ad eo ip (upN w 1 0) σ aw (hiF h) (hiF s2) ot ++ (SW κ (AA 0) g ++ (RC ra (AA 0 0) (AA 1 0) (AA 2 0) la lb (AA 6 0) (AA 5 0) ++ (SW κ (AA 1) f ++ (HO κ (AA 2) hf nx ct ++ (hW κ Hs gh 10 ++ (SW κ (AA 3) g1 ++ (SO la (AA 3 0) f1 ++ (SW κ (AA 4) g2 ++ (SO lb (AA 4 0) f2 ++ (OW κ (AA 5) no ot ++ (SW κ (AA 7) gp ++ PW κ (AA 6) (AA 7) eo v tx))))))))))))) pmM (fun u2 => pmM.symm) rfl (Nat.le_of_ble_eq_true rfl) dL_law_450 ⟨by show _ ≤ 601024; omega, by show _ ≤ 7293034; omega⟩ (fun u2 hu2 => ?_)
  refine z_icmpE C 2685 rfl dL_law_453 (by decide) ?_
  refine z_lv [0, 1, 2, 3, 4] rfl ?_
  exact K fo g f g1 g2 gp gh nx ct f1 f2 no ot eo v tx ip (upN w 1 0) σ aw h s2 cells slots (by omega) (by omega) ((H.mono (by omega) (by omega)).w1 _)
set_option maxRecDepth 100000 in
set_option maxHeartbeats 8000000 in
theorem lc_4 (C : zC p s m args c cL_law 9 wsL_law RL D (zTy κ) A) (hXc : aX adK adV A s s.heap) (hls : l.stackTraces = false) (hX : va_X sc L xs s s.heap) (hb0 : sc < s.heap.size) (hA0 : ¬ A sc) (hhf : ∀ j, j < 10 → hf j = some (Hs j 0)) (hi6 : i + 6 ≤ L) (hL : L ≤ 3072) (hcr : cells + 1 ≤ 601024 ∧ slots + 6 ≤ 7293034) (H : LI M g g1 g2 gh nx ct f1 f2 no v tx ip w σ h s2) (hM1 : 700000 ≤ M) (hM : M ≤ 1400000) (K : LGO p l e s m args below meth c D A Q sc κ ra la lb oa Ad AA Hs hf 2685 (M + 1200) i (cells + 1) (slots + 6))   : zW p l e RML s m args below meth c 9 D A cells slots Q (LAWW κ ra la lb oa Ad AA Hs hf fo g f g1 g2 gp gh nx ct f1 f2 no ot eo v tx ip w σ aw h s2) [(0, .ref (sc)), (1, .ref (ra)), (2, .ref (Ad 0)), (3, .ref (oa)), (4, .int (nI i))] 458 [] := by
  obtain ⟨hr, hv, ht0⟩ := id H.1
  obtain ⟨hnx, hct, h5, -⟩ := id H.2.1
  obtain ⟨q1, q2, h7, -, -⟩ := id H.2.2.1
  obtain ⟨v1, hw9, v2, ht⟩ := id H.2.2.2.1
  obtain ⟨hno, hn64⟩ := id H.2.2.2.2
  have n1 := hv.n1
  have n2 := hv.n2
  refine z_aload_n C dL_law_458 1 rfl ?_
  refine z_callV C (mX5_tick l D κ (AA 0) g ra (AA 1 0) (AA 2 0) la lb (AA 6 0) (AA 5 0) σ M hr hv) gL_law_X5_tick rfl rfl rfl hdX5_tick ⟨(Nat.le_of_ble_eq_true rfl), (Nat.le_of_ble_eq_true rfl)⟩ 13 rfl rfl _ (fun u1 => OUTW κ oa fo ++ (MW κ Ad eo ip w σ aw (hiF h) (hiF s2) ot ++ (SW κ (AA 0) g ++ (RC ra (AA 0 0) (AA 1 0) (AA 2 0) la lb (AA 6 0) (AA 5 0) ++ (SW κ (AA 1) f ++ (HO κ (AA 2) hf nx ct ++ (hW κ Hs gh 10 ++ (SW κ (AA 3) g1 ++ (SO la (AA 3 0) f1 ++ (SW κ (AA 4) g2 ++ (SO lb (AA 4 0) f2 ++ (OW κ (AA 5) no ot ++ (SW κ (AA 7) gp ++ PW κ (AA 6) (AA 7) eo v tx))))))))))))) pmX_S (fun u1 => pmX_S.symm) rfl (Nat.le_of_ble_eq_true rfl) dL_law_459 ⟨by show _ ≤ 601024; omega, by show _ ≤ 7293034; omega⟩ (fun u1 hu1 => ?_)
  refine z_aload_n C dL_law_462 2 rfl ?_
  refine z_callV C (mX6_tick l D κ Ad eo ip w σ aw (hiF h) (hiF s2) ot M hv.1) gL_law_X6_tick rfl rfl rfl hdX6_tick ⟨(Nat.le_of_ble_eq_true rfl), (Nat.le_of_ble_eq_true rfl)⟩ 0 rfl rfl _ (fun u2 => OUTW κ oa fo ++ (MW κ Ad eo ip (upN w 1 0) σ aw (hiF h) (hiF s2) ot ++ (SW κ (AA 0) g ++ (RC ra (AA 0 0) (AA 1 0) (AA 2 0) la lb (AA 6 0) (AA 5 0) ++ (SW κ (AA 1) f ++ (HO κ (AA 2) hf nx ct ++ (hW κ Hs gh 10 ++ (SW κ (AA 3) g1 ++ (SO la (AA 3 0) f1 ++ (SW κ (AA 4) g2 ++ (SO lb (AA 4 0) f2 ++ (OW κ (AA 5) no ot ++ (SW κ (AA 7) gp ++ PW κ (AA 6) (AA 7) eo v tx))))))))))))) pmM (fun u2 => pmM.symm) rfl (Nat.le_of_ble_eq_true rfl) dL_law_463 ⟨by show _ ≤ 601024; omega, by show _ ≤ 7293034; omega⟩ (fun u2 hu2 => ?_)
  refine z_icmpE C 2685 rfl dL_law_466 (by decide) ?_
  refine z_lv [0, 1, 2, 3, 4] rfl ?_
  exact K fo g f g1 g2 gp gh nx ct f1 f2 no ot eo v tx ip (upN w 1 0) σ aw h s2 cells slots (by omega) (by omega) ((H.mono (by omega) (by omega)).w1 _)
set_option maxRecDepth 100000 in
set_option maxHeartbeats 8000000 in
theorem lc_5 (C : zC p s m args c cL_law 9 wsL_law RL D (zTy κ) A) (hXc : aX adK adV A s s.heap) (hls : l.stackTraces = false) (hX : va_X sc L xs s s.heap) (hb0 : sc < s.heap.size) (hA0 : ¬ A sc) (hhf : ∀ j, j < 10 → hf j = some (Hs j 0)) (hi6 : i + 6 ≤ L) (hL : L ≤ 3072) (hcr : cells + 1 ≤ 601024 ∧ slots + 6 ≤ 7293034) (H : LI M g g1 g2 gh nx ct f1 f2 no v tx ip w σ h s2) (hM1 : 700000 ≤ M) (hM : M ≤ 1400000) (K : LGO p l e s m args below meth c D A Q sc κ ra la lb oa Ad AA Hs hf 2685 (M + 1200) i (cells + 1) (slots + 6))   : zW p l e RML s m args below meth c 9 D A cells slots Q (LAWW κ ra la lb oa Ad AA Hs hf fo g f g1 g2 gp gh nx ct f1 f2 no ot eo v tx ip w σ aw h s2) [(0, .ref (sc)), (1, .ref (ra)), (2, .ref (Ad 0)), (3, .ref (oa)), (4, .int (nI i))] 471 [] := by
  obtain ⟨hr, hv, ht0⟩ := id H.1
  obtain ⟨hnx, hct, h5, -⟩ := id H.2.1
  obtain ⟨q1, q2, h7, -, -⟩ := id H.2.2.1
  obtain ⟨v1, hw9, v2, ht⟩ := id H.2.2.2.1
  obtain ⟨hno, hn64⟩ := id H.2.2.2.2
  have n1 := hv.n1
  have n2 := hv.n2
  refine z_aload_n C dL_law_471 1 rfl ?_
  refine z_callV C (mX5_blockCount l D κ (AA 0) g ra (AA 1 0) (AA 2 0) la lb (AA 6 0) (AA 5 0) σ M hr hv) gL_law_X5_blockCount rfl rfl rfl hdX5_blockCount ⟨(Nat.le_of_ble_eq_true rfl), (Nat.le_of_ble_eq_true rfl)⟩ 13 rfl rfl _ (fun u1 => OUTW κ oa fo ++ (MW κ Ad eo ip w σ aw (hiF h) (hiF s2) ot ++ (SW κ (AA 0) g ++ (RC ra (AA 0 0) (AA 1 0) (AA 2 0) la lb (AA 6 0) (AA 5 0) ++ (SW κ (AA 1) f ++ (HO κ (AA 2) hf nx ct ++ (hW κ Hs gh 10 ++ (SW κ (AA 3) g1 ++ (SO la (AA 3 0) f1 ++ (SW κ (AA 4) g2 ++ (SO lb (AA 4 0) f2 ++ (OW κ (AA 5) no ot ++ (SW κ (AA 7) gp ++ PW κ (AA 6) (AA 7) eo v tx))))))))))))) pmX_S (fun u1 => pmX_S.symm) rfl (Nat.le_of_ble_eq_true rfl) dL_law_472 ⟨by show _ ≤ 601024; omega, by show _ ≤ 7293034; omega⟩ (fun u1 hu1 => ?_)
  refine z_aload_n C dL_law_475 2 rfl ?_
  refine z_callV C (mX6_blockCount l D κ Ad eo ip w σ aw (hiF h) (hiF s2) ot M hv.1) gL_law_X6_blockCount rfl rfl rfl hdX6_blockCount ⟨(Nat.le_of_ble_eq_true rfl), (Nat.le_of_ble_eq_true rfl)⟩ 0 rfl rfl _ (fun u2 => OUTW κ oa fo ++ (MW κ Ad eo ip (upN w 1 0) σ aw (hiF h) (hiF s2) ot ++ (SW κ (AA 0) g ++ (RC ra (AA 0 0) (AA 1 0) (AA 2 0) la lb (AA 6 0) (AA 5 0) ++ (SW κ (AA 1) f ++ (HO κ (AA 2) hf nx ct ++ (hW κ Hs gh 10 ++ (SW κ (AA 3) g1 ++ (SO la (AA 3 0) f1 ++ (SW κ (AA 4) g2 ++ (SO lb (AA 4 0) f2 ++ (OW κ (AA 5) no ot ++ (SW κ (AA 7) gp ++ PW κ (AA 6) (AA 7) eo v tx))))))))))))) pmM (fun u2 => pmM.symm) rfl (Nat.le_of_ble_eq_true rfl) dL_law_476 ⟨by show _ ≤ 601024; omega, by show _ ≤ 7293034; omega⟩ (fun u2 hu2 => ?_)
  refine z_icmpE C 2685 rfl dL_law_479 (by decide) ?_
  refine z_lv [0, 1, 2, 3, 4] rfl ?_
  exact K fo g f g1 g2 gp gh nx ct f1 f2 no ot eo v tx ip (upN w 1 0) σ aw h s2 cells slots (by omega) (by omega) ((H.mono (by omega) (by omega)).w1 _)
set_option maxRecDepth 100000 in
set_option maxHeartbeats 8000000 in
theorem lc_6_ok (C : zC p s m args c cL_law 9 wsL_law RL D (zTy κ) A) (hXc : aX adK adV A s s.heap) (hls : l.stackTraces = false) (hX : va_X sc L xs s s.heap) (hb0 : sc < s.heap.size) (hA0 : ¬ A sc) (hhf : ∀ j, j < 10 → hf j = some (Hs j 0)) (hi6 : i + 6 ≤ L) (hL : L ≤ 3072) (hcr : cells + 1 ≤ 601024 ∧ slots + 6 ≤ 7293034) (H : LI M g g1 g2 gh nx ct f1 f2 no v tx ip w σ h s2) (hM1 : 700000 ≤ M) (hM : M ≤ 1400000) (K : LGO p l e s m args below meth c D A Q sc κ ra la lb oa Ad AA Hs hf 2685 (M + 1200) i (cells + 1) (slots + 6)) (b : Nat) (hb : b < σ 1) (hx19 : xs (i + 1) = nI b) : zW p l e RML s m args below meth c 9 D A cells slots Q (LAWW κ ra la lb oa Ad AA Hs hf fo g f g1 g2 gp gh nx ct f1 f2 no ot eo v tx ip w σ aw h s2) [(0, .ref (sc)), (1, .ref (ra)), (2, .ref (Ad 0)), (3, .ref (oa)), (4, .int (nI i))] 484 [] := by
  obtain ⟨hr, hv, ht0⟩ := id H.1
  obtain ⟨hnx, hct, h5, -⟩ := id H.2.1
  obtain ⟨q1, q2, h7, -, -⟩ := id H.2.2.1
  obtain ⟨v1, hw9, v2, ht⟩ := id H.2.2.2.1
  obtain ⟨hno, hn64⟩ := id H.2.2.2.2
  have n1 := hv.n1
  have n2 := hv.n2
  refine z_aload_n C dL_law_484 1 rfl ?_
  refine z_aload_n C dL_law_485 0 rfl ?_
  refine z_iload C dL_law_486 4 rfl ?_
  refine z_iconst (v := nI 1) C dL_law_488 (by decide) ?_
  refine zn_iadd C dL_law_489 ?_
  refine z_sld C hX hb0 hA0 (i := i + 1) (by omega) (by omega) hx19 dL_law_490 ?_
  refine z_aload_n C dL_law_491 3 rfl ?_
  refine zh_callS C (aX_ok adK adV) hXc (mL_lengthOf_ok l D κ (AA 0) g ra (AA 1 0) (AA 2 0) la lb (AA 6 0) (AA 5 0) σ M b hr hv hb adK adV oa fo) gL_law_L_lengthOf rfl rfl rfl hdL_lengthOf ⟨(Nat.le_of_ble_eq_true rfl), (Nat.le_of_ble_eq_true rfl)⟩ _ (fun u1 => OUTW κ oa (vp_updL fo 0 (((nI (σ (5 + 6 * b + 0)))).toInt64)) ++ (MW κ Ad eo ip w σ aw (hiF h) (hiF s2) ot ++ (SW κ (AA 0) g ++ (RC ra (AA 0 0) (AA 1 0) (AA 2 0) la lb (AA 6 0) (AA 5 0) ++ (SW κ (AA 1) f ++ (HO κ (AA 2) hf nx ct ++ (hW κ Hs gh 10 ++ (SW κ (AA 3) g1 ++ (SO la (AA 3 0) f1 ++ (SW κ (AA 4) g2 ++ (SO lb (AA 4 0) f2 ++ (OW κ (AA 5) no ot ++ (SW κ (AA 7) gp ++ PW κ (AA 6) (AA 7) eo v tx))))))))))))) pmH_S (fun u1 => pmH_S.symm) rfl (Nat.le_of_ble_eq_true rfl) dL_law_492 ⟨by show _ ≤ 601024; omega, by show _ ≤ 7293034; omega⟩ (fun u1 hu1 => ?_)
  refine z_istore C [(5, .int (nI 0)), (0, .ref (sc)), (1, .ref (ra)), (2, .ref (Ad 0)), (3, .ref (oa)), (4, .int (nI i))] dL_law_495 (by decide) rfl ?_
  refine z_aload_n C dL_law_497 3 rfl ?_
  refine z_aload_n C dL_law_498 1 rfl ?_
  refine z_iload C dL_law_499 5 rfl ?_
  refine z_iconst (v := nI 1) C dL_law_501 (by decide) ?_
  refine zn_iadd C dL_law_502 ?_
  refine z_sld C hX hb0 hA0 (i := i + 1) (by omega) (by omega) hx19 dL_law_503 ?_
  refine z_callV C (mX6_lengthOf_ok l D κ Ad eo ip w σ aw (hiF h) (hiF s2) ot M b hv.1 (by first | assumption | omega)) gL_law_X6_lengthOf rfl rfl rfl hdX6_lengthOf ⟨(Nat.le_of_ble_eq_true rfl), (Nat.le_of_ble_eq_true rfl)⟩ 0 rfl rfl _ (fun u2 => OUTW κ oa (vp_updL fo 0 (((nI (σ (5 + 6 * b + 0)))).toInt64)) ++ (MW κ Ad eo ip (upN w 1 0) σ aw (hiF h) (hiF s2) ot ++ (SW κ (AA 0) g ++ (RC ra (AA 0 0) (AA 1 0) (AA 2 0) la lb (AA 6 0) (AA 5 0) ++ (SW κ (AA 1) f ++ (HO κ (AA 2) hf nx ct ++ (hW κ Hs gh 10 ++ (SW κ (AA 3) g1 ++ (SO la (AA 3 0) f1 ++ (SW κ (AA 4) g2 ++ (SO lb (AA 4 0) f2 ++ (OW κ (AA 5) no ot ++ (SW κ (AA 7) gp ++ PW κ (AA 6) (AA 7) eo v tx))))))))))))) pmM (fun u2 => pmM.symm) rfl (Nat.le_of_ble_eq_true rfl) dL_law_504 ⟨by show _ ≤ 601024; omega, by show _ ≤ 7293034; omega⟩ (fun u2 hu2 => ?_)
  refine z_istore C [(6, .int ((nI (σ (5 + 6 * b + 0))))), (5, .int (nI 0)), (0, .ref (sc)), (1, .ref (ra)), (2, .ref (Ad 0)), (3, .ref (oa)), (4, .int (nI i))] dL_law_507 (by decide) rfl ?_
  refine z_aload_n C dL_law_509 4 rfl ?_
  refine z_callV C (mX6_thrown l D κ Ad eo ip (upN w 1 0) σ aw (hiF h) (hiF s2) ot) gL_law_X6_thrown rfl rfl rfl hdX6_thrown ⟨(Nat.le_of_ble_eq_true rfl), (Nat.le_of_ble_eq_true rfl)⟩ 0 rfl rfl _ (fun _ => OUTW κ oa (vp_updL fo 0 (((nI (σ (5 + 6 * b + 0)))).toInt64)) ++ (MW κ Ad eo ip (upN w 1 0) σ aw (hiF h) (hiF s2) ot ++ (SW κ (AA 0) g ++ (RC ra (AA 0 0) (AA 1 0) (AA 2 0) la lb (AA 6 0) (AA 5 0) ++ (SW κ (AA 1) f ++ (HO κ (AA 2) hf nx ct ++ (hW κ Hs gh 10 ++ (SW κ (AA 3) g1 ++ (SO la (AA 3 0) f1 ++ (SW κ (AA 4) g2 ++ (SO lb (AA 4 0) f2 ++ (OW κ (AA 5) no ot ++ (SW κ (AA 7) gp ++ PW κ (AA 6) (AA 7) eo v tx))))))))))))) pmM (fun _ => pmM.symm) rfl (Nat.le_of_ble_eq_true rfl) dL_law_510 ⟨by show _ ≤ 601024; omega, by show _ ≤ 7293034; omega⟩ (fun _ _ => ?_)
  refine z_iload C dL_law_513 1 rfl ?_
  refine z_icmpE C 520 rfl dL_law_515 (by decide) ?_
  refine z_iload C dL_law_520 1 rfl ?_
  refine z_if_ne C 537 dL_law_522 (by decide) (fun q => absurd (by decide) q) (fun _ => ?_)
  refine z_aload_n C dL_law_525 5 rfl ?_
  refine z_iconst (v := nI 0) C dL_law_526 (by decide) ?_
  refine z_lald C 0 4 rfl rfl (i := 0) (by decide) (by decide) dL_law_527 ?_
  refine z_iload C dL_law_528 0 rfl ?_
  refine z_i2l C dL_law_530 rfl ?_
  refine z_lcmpE C (updL_0) dL_law_531 ?_
  refine z_if_eq C 537 dL_law_532 (by decide) (fun _ => ?_) (fun q => absurd (by decide) q)
  refine z_goto (tgt := 2685) C dL_law_537 (by decide) ?_
  refine z_lv [2, 3, 4, 5, 6] rfl ?_
  exact K (vp_updL fo 0 (((nI (σ (5 + 6 * b + 0)))).toInt64)) g f g1 g2 gp gh nx ct f1 f2 no ot eo v tx ip (upN w 1 0) σ aw h s2 cells slots (by omega) (by omega) ((H.mono (by omega) (by omega)).w1 _)
set_option maxRecDepth 100000 in
set_option maxHeartbeats 8000000 in
theorem lc_6_no (C : zC p s m args c cL_law 9 wsL_law RL D (zTy κ) A) (hXc : aX adK adV A s s.heap) (hls : l.stackTraces = false) (hX : va_X sc L xs s s.heap) (hb0 : sc < s.heap.size) (hA0 : ¬ A sc) (hhf : ∀ j, j < 10 → hf j = some (Hs j 0)) (hi6 : i + 6 ≤ L) (hL : L ≤ 3072) (hcr : cells + 1 ≤ 601024 ∧ slots + 6 ≤ 7293034) (H : LI M g g1 g2 gh nx ct f1 f2 no v tx ip w σ h s2) (hM1 : 700000 ≤ M) (hM : M ≤ 1400000) (K : LGO p l e s m args below meth c D A Q sc κ ra la lb oa Ad AA Hs hf 2685 (M + 1200) i (cells + 1) (slots + 6)) (x : Int32) (hx : isB (σ 1) x = false) (hx19 : xs (i + 1) = x) : zW p l e RML s m args below meth c 9 D A cells slots Q (LAWW κ ra la lb oa Ad AA Hs hf fo g f g1 g2 gp gh nx ct f1 f2 no ot eo v tx ip w σ aw h s2) [(0, .ref (sc)), (1, .ref (ra)), (2, .ref (Ad 0)), (3, .ref (oa)), (4, .int (nI i))] 484 [] := by
  obtain ⟨hr, hv, ht0⟩ := id H.1
  obtain ⟨hnx, hct, h5, -⟩ := id H.2.1
  obtain ⟨q1, q2, h7, -, -⟩ := id H.2.2.1
  obtain ⟨v1, hw9, v2, ht⟩ := id H.2.2.2.1
  obtain ⟨hno, hn64⟩ := id H.2.2.2.2
  have n1 := hv.n1
  have n2 := hv.n2
  refine z_aload_n C dL_law_484 1 rfl ?_
  refine z_aload_n C dL_law_485 0 rfl ?_
  refine z_iload C dL_law_486 4 rfl ?_
  refine z_iconst (v := nI 1) C dL_law_488 (by decide) ?_
  refine zn_iadd C dL_law_489 ?_
  refine z_sld C hX hb0 hA0 (i := i + 1) (by omega) (by omega) hx19 dL_law_490 ?_
  refine z_aload_n C dL_law_491 3 rfl ?_
  refine zh_callS C (aX_ok adK adV) hXc (mL_lengthOf_no l D κ adK adV (AA 0) g ra (AA 1 0) (AA 2 0) la lb (AA 6 0) (AA 5 0) σ M x hls hr hv hx oa fo) gL_law_L_lengthOf rfl rfl rfl hdL_lengthOf ⟨(Nat.le_of_ble_eq_true rfl), (Nat.le_of_ble_eq_true rfl)⟩ _ (fun u1 => OUTW κ oa fo ++ (MW κ Ad eo ip w σ aw (hiF h) (hiF s2) ot ++ (SW κ (AA 0) g ++ (RC ra (AA 0 0) (AA 1 0) (AA 2 0) la lb (AA 6 0) (AA 5 0) ++ (SW κ (AA 1) f ++ (HO κ (AA 2) hf nx ct ++ (hW κ Hs gh 10 ++ (SW κ (AA 3) g1 ++ (SO la (AA 3 0) f1 ++ (SW κ (AA 4) g2 ++ (SO lb (AA 4 0) f2 ++ (OW κ (AA 5) no ot ++ (SW κ (AA 7) gp ++ PW κ (AA 6) (AA 7) eo v tx))))))))))))) pmH_S (fun u1 => pmH_S.symm) rfl (Nat.le_of_ble_eq_true rfl) dL_law_492 ⟨by show _ ≤ 601024; omega, by show _ ≤ 7293034; omega⟩ (fun u1 hu1 => ?_)
  refine z_istore C [(5, .int (nI 1)), (0, .ref (sc)), (1, .ref (ra)), (2, .ref (Ad 0)), (3, .ref (oa)), (4, .int (nI i))] dL_law_495 (by decide) rfl ?_
  refine z_aload_n C dL_law_497 3 rfl ?_
  refine z_aload_n C dL_law_498 1 rfl ?_
  refine z_iload C dL_law_499 5 rfl ?_
  refine z_iconst (v := nI 1) C dL_law_501 (by decide) ?_
  refine zn_iadd C dL_law_502 ?_
  refine z_sld C hX hb0 hA0 (i := i + 1) (by omega) (by omega) hx19 dL_law_503 ?_
  refine z_callV C (mX6_lengthOf_no l D κ Ad eo ip w σ aw (hiF h) (hiF s2) ot M x hv.1 hx) gL_law_X6_lengthOf rfl rfl rfl hdX6_lengthOf ⟨(Nat.le_of_ble_eq_true rfl), (Nat.le_of_ble_eq_true rfl)⟩ 0 rfl rfl _ (fun u2 => OUTW κ oa fo ++ (MW κ Ad eo ip (upN w 1 1) σ aw (hiF h) (hiF s2) ot ++ (SW κ (AA 0) g ++ (RC ra (AA 0 0) (AA 1 0) (AA 2 0) la lb (AA 6 0) (AA 5 0) ++ (SW κ (AA 1) f ++ (HO κ (AA 2) hf nx ct ++ (hW κ Hs gh 10 ++ (SW κ (AA 3) g1 ++ (SO la (AA 3 0) f1 ++ (SW κ (AA 4) g2 ++ (SO lb (AA 4 0) f2 ++ (OW κ (AA 5) no ot ++ (SW κ (AA 7) gp ++ PW κ (AA 6) (AA 7) eo v tx))))))))))))) pmM (fun u2 => pmM.symm) rfl (Nat.le_of_ble_eq_true rfl) dL_law_504 ⟨by show _ ≤ 601024; omega, by show _ ≤ 7293034; omega⟩ (fun u2 hu2 => ?_)
  refine z_istore C [(6, .int ((nI 0))), (5, .int (nI 1)), (0, .ref (sc)), (1, .ref (ra)), (2, .ref (Ad 0)), (3, .ref (oa)), (4, .int (nI i))] dL_law_507 (by decide) rfl ?_
  refine z_aload_n C dL_law_509 4 rfl ?_
  refine z_callV C (mX6_thrown l D κ Ad eo ip (upN w 1 1) σ aw (hiF h) (hiF s2) ot) gL_law_X6_thrown rfl rfl rfl hdX6_thrown ⟨(Nat.le_of_ble_eq_true rfl), (Nat.le_of_ble_eq_true rfl)⟩ 0 rfl rfl _ (fun _ => OUTW κ oa fo ++ (MW κ Ad eo ip (upN w 1 1) σ aw (hiF h) (hiF s2) ot ++ (SW κ (AA 0) g ++ (RC ra (AA 0 0) (AA 1 0) (AA 2 0) la lb (AA 6 0) (AA 5 0) ++ (SW κ (AA 1) f ++ (HO κ (AA 2) hf nx ct ++ (hW κ Hs gh 10 ++ (SW κ (AA 3) g1 ++ (SO la (AA 3 0) f1 ++ (SW κ (AA 4) g2 ++ (SO lb (AA 4 0) f2 ++ (OW κ (AA 5) no ot ++ (SW κ (AA 7) gp ++ PW κ (AA 6) (AA 7) eo v tx))))))))))))) pmM (fun _ => pmM.symm) rfl (Nat.le_of_ble_eq_true rfl) dL_law_510 ⟨by show _ ≤ 601024; omega, by show _ ≤ 7293034; omega⟩ (fun _ _ => ?_)
  refine z_iload C dL_law_513 1 rfl ?_
  refine z_icmpE C 520 rfl dL_law_515 (by decide) ?_
  refine z_iload C dL_law_520 1 rfl ?_
  refine z_if_ne C 537 dL_law_522 (by decide) (fun _ => ?_) (fun q => absurd q (by decide))
  refine z_goto (tgt := 2685) C dL_law_537 (by decide) ?_
  refine z_lv [2, 3, 4, 5, 6] rfl ?_
  exact K fo g f g1 g2 gp gh nx ct f1 f2 no ot eo v tx ip (upN w 1 1) σ aw h s2 (cells + 1) (slots + 6) (by omega) (by omega) ((H.mono (by omega) (by omega)).w1 _)
set_option maxRecDepth 100000 in
set_option maxHeartbeats 8000000 in
theorem lc_7_ok (C : zC p s m args c cL_law 9 wsL_law RL D (zTy κ) A) (hXc : aX adK adV A s s.heap) (hls : l.stackTraces = false) (hX : va_X sc L xs s s.heap) (hb0 : sc < s.heap.size) (hA0 : ¬ A sc) (hhf : ∀ j, j < 10 → hf j = some (Hs j 0)) (hi6 : i + 6 ≤ L) (hL : L ≤ 3072) (hcr : cells + 1 ≤ 601024 ∧ slots + 6 ≤ 7293034) (H : LI M g g1 g2 gh nx ct f1 f2 no v tx ip w σ h s2) (hM1 : 700000 ≤ M) (hM : M ≤ 1400000) (K : LGO p l e s m args below meth c D A Q sc κ ra la lb oa Ad AA Hs hf 2685 (M + 1200) i (cells + 1) (slots + 6)) (b : Nat) (hb : b < σ 1) (hx19 : xs (i + 1) = nI b) : zW p l e RML s m args below meth c 9 D A cells slots Q (LAWW κ ra la lb oa Ad AA Hs hf fo g f g1 g2 gp gh nx ct f1 f2 no ot eo v tx ip w σ aw h s2) [(0, .ref (sc)), (1, .ref (ra)), (2, .ref (Ad 0)), (3, .ref (oa)), (4, .int (nI i))] 540 [] := by
  obtain ⟨hr, hv, ht0⟩ := id H.1
  obtain ⟨hnx, hct, h5, -⟩ := id H.2.1
  obtain ⟨q1, q2, h7, -, -⟩ := id H.2.2.1
  obtain ⟨v1, hw9, v2, ht⟩ := id H.2.2.2.1
  obtain ⟨hno, hn64⟩ := id H.2.2.2.2
  have n1 := hv.n1
  have n2 := hv.n2
  refine z_aload_n C dL_law_540 1 rfl ?_
  refine z_aload_n C dL_law_541 0 rfl ?_
  refine z_iload C dL_law_542 4 rfl ?_
  refine z_iconst (v := nI 1) C dL_law_544 (by decide) ?_
  refine zn_iadd C dL_law_545 ?_
  refine z_sld C hX hb0 hA0 (i := i + 1) (by omega) (by omega) hx19 dL_law_546 ?_
  refine z_aload_n C dL_law_547 3 rfl ?_
  refine zh_callS C (aX_ok adK adV) hXc (mL_depthOf_ok l D κ (AA 0) g ra (AA 1 0) (AA 2 0) la lb (AA 6 0) (AA 5 0) σ M b hr hv hb adK adV oa fo) gL_law_L_depthOf rfl rfl rfl hdL_depthOf ⟨(Nat.le_of_ble_eq_true rfl), (Nat.le_of_ble_eq_true rfl)⟩ _ (fun u1 => OUTW κ oa (vp_updL fo 0 (((nI (σ (5 + 6 * b + 1)))).toInt64)) ++ (MW κ Ad eo ip w σ aw (hiF h) (hiF s2) ot ++ (SW κ (AA 0) g ++ (RC ra (AA 0 0) (AA 1 0) (AA 2 0) la lb (AA 6 0) (AA 5 0) ++ (SW κ (AA 1) f ++ (HO κ (AA 2) hf nx ct ++ (hW κ Hs gh 10 ++ (SW κ (AA 3) g1 ++ (SO la (AA 3 0) f1 ++ (SW κ (AA 4) g2 ++ (SO lb (AA 4 0) f2 ++ (OW κ (AA 5) no ot ++ (SW κ (AA 7) gp ++ PW κ (AA 6) (AA 7) eo v tx))))))))))))) pmH_S (fun u1 => pmH_S.symm) rfl (Nat.le_of_ble_eq_true rfl) dL_law_548 ⟨by show _ ≤ 601024; omega, by show _ ≤ 7293034; omega⟩ (fun u1 hu1 => ?_)
  refine z_istore C [(5, .int (nI 0)), (0, .ref (sc)), (1, .ref (ra)), (2, .ref (Ad 0)), (3, .ref (oa)), (4, .int (nI i))] dL_law_551 (by decide) rfl ?_
  refine z_aload_n C dL_law_553 3 rfl ?_
  refine z_aload_n C dL_law_554 1 rfl ?_
  refine z_iload C dL_law_555 5 rfl ?_
  refine z_iconst (v := nI 1) C dL_law_557 (by decide) ?_
  refine zn_iadd C dL_law_558 ?_
  refine z_sld C hX hb0 hA0 (i := i + 1) (by omega) (by omega) hx19 dL_law_559 ?_
  refine z_callV C (mX6_depthOf_ok l D κ Ad eo ip w σ aw (hiF h) (hiF s2) ot M b hv.1 (by first | assumption | omega)) gL_law_X6_depthOf rfl rfl rfl hdX6_depthOf ⟨(Nat.le_of_ble_eq_true rfl), (Nat.le_of_ble_eq_true rfl)⟩ 0 rfl rfl _ (fun u2 => OUTW κ oa (vp_updL fo 0 (((nI (σ (5 + 6 * b + 1)))).toInt64)) ++ (MW κ Ad eo ip (upN w 1 0) σ aw (hiF h) (hiF s2) ot ++ (SW κ (AA 0) g ++ (RC ra (AA 0 0) (AA 1 0) (AA 2 0) la lb (AA 6 0) (AA 5 0) ++ (SW κ (AA 1) f ++ (HO κ (AA 2) hf nx ct ++ (hW κ Hs gh 10 ++ (SW κ (AA 3) g1 ++ (SO la (AA 3 0) f1 ++ (SW κ (AA 4) g2 ++ (SO lb (AA 4 0) f2 ++ (OW κ (AA 5) no ot ++ (SW κ (AA 7) gp ++ PW κ (AA 6) (AA 7) eo v tx))))))))))))) pmM (fun u2 => pmM.symm) rfl (Nat.le_of_ble_eq_true rfl) dL_law_560 ⟨by show _ ≤ 601024; omega, by show _ ≤ 7293034; omega⟩ (fun u2 hu2 => ?_)
  refine z_istore C [(6, .int ((nI (σ (5 + 6 * b + 1))))), (5, .int (nI 0)), (0, .ref (sc)), (1, .ref (ra)), (2, .ref (Ad 0)), (3, .ref (oa)), (4, .int (nI i))] dL_law_563 (by decide) rfl ?_
  refine z_aload_n C dL_law_565 4 rfl ?_
  refine z_callV C (mX6_thrown l D κ Ad eo ip (upN w 1 0) σ aw (hiF h) (hiF s2) ot) gL_law_X6_thrown rfl rfl rfl hdX6_thrown ⟨(Nat.le_of_ble_eq_true rfl), (Nat.le_of_ble_eq_true rfl)⟩ 0 rfl rfl _ (fun _ => OUTW κ oa (vp_updL fo 0 (((nI (σ (5 + 6 * b + 1)))).toInt64)) ++ (MW κ Ad eo ip (upN w 1 0) σ aw (hiF h) (hiF s2) ot ++ (SW κ (AA 0) g ++ (RC ra (AA 0 0) (AA 1 0) (AA 2 0) la lb (AA 6 0) (AA 5 0) ++ (SW κ (AA 1) f ++ (HO κ (AA 2) hf nx ct ++ (hW κ Hs gh 10 ++ (SW κ (AA 3) g1 ++ (SO la (AA 3 0) f1 ++ (SW κ (AA 4) g2 ++ (SO lb (AA 4 0) f2 ++ (OW κ (AA 5) no ot ++ (SW κ (AA 7) gp ++ PW κ (AA 6) (AA 7) eo v tx))))))))))))) pmM (fun _ => pmM.symm) rfl (Nat.le_of_ble_eq_true rfl) dL_law_566 ⟨by show _ ≤ 601024; omega, by show _ ≤ 7293034; omega⟩ (fun _ _ => ?_)
  refine z_iload C dL_law_569 1 rfl ?_
  refine z_icmpE C 576 rfl dL_law_571 (by decide) ?_
  refine z_iload C dL_law_576 1 rfl ?_
  refine z_if_ne C 593 dL_law_578 (by decide) (fun q => absurd (by decide) q) (fun _ => ?_)
  refine z_aload_n C dL_law_581 5 rfl ?_
  refine z_iconst (v := nI 0) C dL_law_582 (by decide) ?_
  refine z_lald C 0 4 rfl rfl (i := 0) (by decide) (by decide) dL_law_583 ?_
  refine z_iload C dL_law_584 0 rfl ?_
  refine z_i2l C dL_law_586 rfl ?_
  refine z_lcmpE C (updL_0) dL_law_587 ?_
  refine z_if_eq C 593 dL_law_588 (by decide) (fun _ => ?_) (fun q => absurd (by decide) q)
  refine z_goto (tgt := 2685) C dL_law_593 (by decide) ?_
  refine z_lv [2, 3, 4, 5, 6] rfl ?_
  exact K (vp_updL fo 0 (((nI (σ (5 + 6 * b + 1)))).toInt64)) g f g1 g2 gp gh nx ct f1 f2 no ot eo v tx ip (upN w 1 0) σ aw h s2 cells slots (by omega) (by omega) ((H.mono (by omega) (by omega)).w1 _)
set_option maxRecDepth 100000 in
set_option maxHeartbeats 8000000 in
theorem lc_7_no (C : zC p s m args c cL_law 9 wsL_law RL D (zTy κ) A) (hXc : aX adK adV A s s.heap) (hls : l.stackTraces = false) (hX : va_X sc L xs s s.heap) (hb0 : sc < s.heap.size) (hA0 : ¬ A sc) (hhf : ∀ j, j < 10 → hf j = some (Hs j 0)) (hi6 : i + 6 ≤ L) (hL : L ≤ 3072) (hcr : cells + 1 ≤ 601024 ∧ slots + 6 ≤ 7293034) (H : LI M g g1 g2 gh nx ct f1 f2 no v tx ip w σ h s2) (hM1 : 700000 ≤ M) (hM : M ≤ 1400000) (K : LGO p l e s m args below meth c D A Q sc κ ra la lb oa Ad AA Hs hf 2685 (M + 1200) i (cells + 1) (slots + 6)) (x : Int32) (hx : isB (σ 1) x = false) (hx19 : xs (i + 1) = x) : zW p l e RML s m args below meth c 9 D A cells slots Q (LAWW κ ra la lb oa Ad AA Hs hf fo g f g1 g2 gp gh nx ct f1 f2 no ot eo v tx ip w σ aw h s2) [(0, .ref (sc)), (1, .ref (ra)), (2, .ref (Ad 0)), (3, .ref (oa)), (4, .int (nI i))] 540 [] := by
  obtain ⟨hr, hv, ht0⟩ := id H.1
  obtain ⟨hnx, hct, h5, -⟩ := id H.2.1
  obtain ⟨q1, q2, h7, -, -⟩ := id H.2.2.1
  obtain ⟨v1, hw9, v2, ht⟩ := id H.2.2.2.1
  obtain ⟨hno, hn64⟩ := id H.2.2.2.2
  have n1 := hv.n1
  have n2 := hv.n2
  refine z_aload_n C dL_law_540 1 rfl ?_
  refine z_aload_n C dL_law_541 0 rfl ?_
  refine z_iload C dL_law_542 4 rfl ?_
  refine z_iconst (v := nI 1) C dL_law_544 (by decide) ?_
  refine zn_iadd C dL_law_545 ?_
  refine z_sld C hX hb0 hA0 (i := i + 1) (by omega) (by omega) hx19 dL_law_546 ?_
  refine z_aload_n C dL_law_547 3 rfl ?_
  refine zh_callS C (aX_ok adK adV) hXc (mL_depthOf_no l D κ adK adV (AA 0) g ra (AA 1 0) (AA 2 0) la lb (AA 6 0) (AA 5 0) σ M x hls hr hv hx oa fo) gL_law_L_depthOf rfl rfl rfl hdL_depthOf ⟨(Nat.le_of_ble_eq_true rfl), (Nat.le_of_ble_eq_true rfl)⟩ _ (fun u1 => OUTW κ oa fo ++ (MW κ Ad eo ip w σ aw (hiF h) (hiF s2) ot ++ (SW κ (AA 0) g ++ (RC ra (AA 0 0) (AA 1 0) (AA 2 0) la lb (AA 6 0) (AA 5 0) ++ (SW κ (AA 1) f ++ (HO κ (AA 2) hf nx ct ++ (hW κ Hs gh 10 ++ (SW κ (AA 3) g1 ++ (SO la (AA 3 0) f1 ++ (SW κ (AA 4) g2 ++ (SO lb (AA 4 0) f2 ++ (OW κ (AA 5) no ot ++ (SW κ (AA 7) gp ++ PW κ (AA 6) (AA 7) eo v tx))))))))))))) pmH_S (fun u1 => pmH_S.symm) rfl (Nat.le_of_ble_eq_true rfl) dL_law_548 ⟨by show _ ≤ 601024; omega, by show _ ≤ 7293034; omega⟩ (fun u1 hu1 => ?_)
  refine z_istore C [(5, .int (nI 1)), (0, .ref (sc)), (1, .ref (ra)), (2, .ref (Ad 0)), (3, .ref (oa)), (4, .int (nI i))] dL_law_551 (by decide) rfl ?_
  refine z_aload_n C dL_law_553 3 rfl ?_
  refine z_aload_n C dL_law_554 1 rfl ?_
  refine z_iload C dL_law_555 5 rfl ?_
  refine z_iconst (v := nI 1) C dL_law_557 (by decide) ?_
  refine zn_iadd C dL_law_558 ?_
  refine z_sld C hX hb0 hA0 (i := i + 1) (by omega) (by omega) hx19 dL_law_559 ?_
  refine z_callV C (mX6_depthOf_no l D κ Ad eo ip w σ aw (hiF h) (hiF s2) ot M x hv.1 hx) gL_law_X6_depthOf rfl rfl rfl hdX6_depthOf ⟨(Nat.le_of_ble_eq_true rfl), (Nat.le_of_ble_eq_true rfl)⟩ 0 rfl rfl _ (fun u2 => OUTW κ oa fo ++ (MW κ Ad eo ip (upN w 1 1) σ aw (hiF h) (hiF s2) ot ++ (SW κ (AA 0) g ++ (RC ra (AA 0 0) (AA 1 0) (AA 2 0) la lb (AA 6 0) (AA 5 0) ++ (SW κ (AA 1) f ++ (HO κ (AA 2) hf nx ct ++ (hW κ Hs gh 10 ++ (SW κ (AA 3) g1 ++ (SO la (AA 3 0) f1 ++ (SW κ (AA 4) g2 ++ (SO lb (AA 4 0) f2 ++ (OW κ (AA 5) no ot ++ (SW κ (AA 7) gp ++ PW κ (AA 6) (AA 7) eo v tx))))))))))))) pmM (fun u2 => pmM.symm) rfl (Nat.le_of_ble_eq_true rfl) dL_law_560 ⟨by show _ ≤ 601024; omega, by show _ ≤ 7293034; omega⟩ (fun u2 hu2 => ?_)
  refine z_istore C [(6, .int ((nI 0))), (5, .int (nI 1)), (0, .ref (sc)), (1, .ref (ra)), (2, .ref (Ad 0)), (3, .ref (oa)), (4, .int (nI i))] dL_law_563 (by decide) rfl ?_
  refine z_aload_n C dL_law_565 4 rfl ?_
  refine z_callV C (mX6_thrown l D κ Ad eo ip (upN w 1 1) σ aw (hiF h) (hiF s2) ot) gL_law_X6_thrown rfl rfl rfl hdX6_thrown ⟨(Nat.le_of_ble_eq_true rfl), (Nat.le_of_ble_eq_true rfl)⟩ 0 rfl rfl _ (fun _ => OUTW κ oa fo ++ (MW κ Ad eo ip (upN w 1 1) σ aw (hiF h) (hiF s2) ot ++ (SW κ (AA 0) g ++ (RC ra (AA 0 0) (AA 1 0) (AA 2 0) la lb (AA 6 0) (AA 5 0) ++ (SW κ (AA 1) f ++ (HO κ (AA 2) hf nx ct ++ (hW κ Hs gh 10 ++ (SW κ (AA 3) g1 ++ (SO la (AA 3 0) f1 ++ (SW κ (AA 4) g2 ++ (SO lb (AA 4 0) f2 ++ (OW κ (AA 5) no ot ++ (SW κ (AA 7) gp ++ PW κ (AA 6) (AA 7) eo v tx))))))))))))) pmM (fun _ => pmM.symm) rfl (Nat.le_of_ble_eq_true rfl) dL_law_566 ⟨by show _ ≤ 601024; omega, by show _ ≤ 7293034; omega⟩ (fun _ _ => ?_)
  refine z_iload C dL_law_569 1 rfl ?_
  refine z_icmpE C 576 rfl dL_law_571 (by decide) ?_
  refine z_iload C dL_law_576 1 rfl ?_
  refine z_if_ne C 593 dL_law_578 (by decide) (fun _ => ?_) (fun q => absurd q (by decide))
  refine z_goto (tgt := 2685) C dL_law_593 (by decide) ?_
  refine z_lv [2, 3, 4, 5, 6] rfl ?_
  exact K fo g f g1 g2 gp gh nx ct f1 f2 no ot eo v tx ip (upN w 1 1) σ aw h s2 (cells + 1) (slots + 6) (by omega) (by omega) ((H.mono (by omega) (by omega)).w1 _)
set_option maxRecDepth 100000 in
set_option maxHeartbeats 8000000 in
theorem lc_8_ok (C : zC p s m args c cL_law 9 wsL_law RL D (zTy κ) A) (hXc : aX adK adV A s s.heap) (hls : l.stackTraces = false) (hX : va_X sc L xs s s.heap) (hb0 : sc < s.heap.size) (hA0 : ¬ A sc) (hhf : ∀ j, j < 10 → hf j = some (Hs j 0)) (hi6 : i + 6 ≤ L) (hL : L ≤ 3072) (hcr : cells + 1 ≤ 601024 ∧ slots + 6 ≤ 7293034) (H : LI M g g1 g2 gh nx ct f1 f2 no v tx ip w σ h s2) (hM1 : 700000 ≤ M) (hM : M ≤ 1400000) (K : LGO p l e s m args below meth c D A Q sc κ ra la lb oa Ad AA Hs hf 2685 (M + 1200) i (cells + 1) (slots + 6)) (b : Nat) (hb : b < σ 1) (hx19 : xs (i + 1) = nI b) : zW p l e RML s m args below meth c 9 D A cells slots Q (LAWW κ ra la lb oa Ad AA Hs hf fo g f g1 g2 gp gh nx ct f1 f2 no ot eo v tx ip w σ aw h s2) [(0, .ref (sc)), (1, .ref (ra)), (2, .ref (Ad 0)), (3, .ref (oa)), (4, .int (nI i))] 596 [] := by
  obtain ⟨hr, hv, ht0⟩ := id H.1
  obtain ⟨hnx, hct, h5, -⟩ := id H.2.1
  obtain ⟨q1, q2, h7, -, -⟩ := id H.2.2.1
  obtain ⟨v1, hw9, v2, ht⟩ := id H.2.2.2.1
  obtain ⟨hno, hn64⟩ := id H.2.2.2.2
  have n1 := hv.n1
  have n2 := hv.n2
  refine z_aload_n C dL_law_596 1 rfl ?_
  refine z_aload_n C dL_law_597 0 rfl ?_
  refine z_iload C dL_law_598 4 rfl ?_
  refine z_iconst (v := nI 1) C dL_law_600 (by decide) ?_
  refine zn_iadd C dL_law_601 ?_
  refine z_sld C hX hb0 hA0 (i := i + 1) (by omega) (by omega) hx19 dL_law_602 ?_
  refine z_aload_n C dL_law_603 3 rfl ?_
  refine zh_callS C (aX_ok adK adV) hXc (mL_isBend_ok l D κ (AA 0) g ra (AA 1 0) (AA 2 0) la lb (AA 6 0) (AA 5 0) σ M b hr hv hb adK adV oa fo) gL_law_L_isBend rfl rfl rfl hdL_isBend ⟨(Nat.le_of_ble_eq_true rfl), (Nat.le_of_ble_eq_true rfl)⟩ _ (fun u1 => OUTW κ oa (vp_updL fo 0 (((nI (decide (σ (5 + 6 * b + 3) = 1)).toNat)).toInt64)) ++ (MW κ Ad eo ip w σ aw (hiF h) (hiF s2) ot ++ (SW κ (AA 0) g ++ (RC ra (AA 0 0) (AA 1 0) (AA 2 0) la lb (AA 6 0) (AA 5 0) ++ (SW κ (AA 1) f ++ (HO κ (AA 2) hf nx ct ++ (hW κ Hs gh 10 ++ (SW κ (AA 3) g1 ++ (SO la (AA 3 0) f1 ++ (SW κ (AA 4) g2 ++ (SO lb (AA 4 0) f2 ++ (OW κ (AA 5) no ot ++ (SW κ (AA 7) gp ++ PW κ (AA 6) (AA 7) eo v tx))))))))))))) pmH_S (fun u1 => pmH_S.symm) rfl (Nat.le_of_ble_eq_true rfl) dL_law_604 ⟨by show _ ≤ 601024; omega, by show _ ≤ 7293034; omega⟩ (fun u1 hu1 => ?_)
  refine z_istore C [(5, .int (nI 0)), (0, .ref (sc)), (1, .ref (ra)), (2, .ref (Ad 0)), (3, .ref (oa)), (4, .int (nI i))] dL_law_607 (by decide) rfl ?_
  refine z_aload_n C dL_law_609 3 rfl ?_
  refine z_aload_n C dL_law_610 1 rfl ?_
  refine z_iload C dL_law_611 5 rfl ?_
  refine z_iconst (v := nI 1) C dL_law_613 (by decide) ?_
  refine zn_iadd C dL_law_614 ?_
  refine z_sld C hX hb0 hA0 (i := i + 1) (by omega) (by omega) hx19 dL_law_615 ?_
  refine z_callV C (mX6_isBend_ok l D κ Ad eo ip w σ aw (hiF h) (hiF s2) ot M b hv.1 (by first | assumption | omega)) gL_law_X6_isBend rfl rfl rfl hdX6_isBend ⟨(Nat.le_of_ble_eq_true rfl), (Nat.le_of_ble_eq_true rfl)⟩ 0 rfl rfl _ (fun u2 => OUTW κ oa (vp_updL fo 0 (((nI (decide (σ (5 + 6 * b + 3) = 1)).toNat)).toInt64)) ++ (MW κ Ad eo ip (upN w 1 0) σ aw (hiF h) (hiF s2) ot ++ (SW κ (AA 0) g ++ (RC ra (AA 0 0) (AA 1 0) (AA 2 0) la lb (AA 6 0) (AA 5 0) ++ (SW κ (AA 1) f ++ (HO κ (AA 2) hf nx ct ++ (hW κ Hs gh 10 ++ (SW κ (AA 3) g1 ++ (SO la (AA 3 0) f1 ++ (SW κ (AA 4) g2 ++ (SO lb (AA 4 0) f2 ++ (OW κ (AA 5) no ot ++ (SW κ (AA 7) gp ++ PW κ (AA 6) (AA 7) eo v tx))))))))))))) pmM (fun u2 => pmM.symm) rfl (Nat.le_of_ble_eq_true rfl) dL_law_616 ⟨by show _ ≤ 601024; omega, by show _ ≤ 7293034; omega⟩ (fun u2 hu2 => ?_)
  refine z_istore C [(6, .int (nI (decide (σ (5 + 6 * b + 3) = 1)).toNat)), (5, .int (nI 0)), (0, .ref (sc)), (1, .ref (ra)), (2, .ref (Ad 0)), (3, .ref (oa)), (4, .int (nI i))] dL_law_619 (by decide) rfl ?_
  refine z_aload_n C dL_law_621 4 rfl ?_
  refine z_callV C (mX6_thrown l D κ Ad eo ip (upN w 1 0) σ aw (hiF h) (hiF s2) ot) gL_law_X6_thrown rfl rfl rfl hdX6_thrown ⟨(Nat.le_of_ble_eq_true rfl), (Nat.le_of_ble_eq_true rfl)⟩ 0 rfl rfl _ (fun _ => OUTW κ oa (vp_updL fo 0 (((nI (decide (σ (5 + 6 * b + 3) = 1)).toNat)).toInt64)) ++ (MW κ Ad eo ip (upN w 1 0) σ aw (hiF h) (hiF s2) ot ++ (SW κ (AA 0) g ++ (RC ra (AA 0 0) (AA 1 0) (AA 2 0) la lb (AA 6 0) (AA 5 0) ++ (SW κ (AA 1) f ++ (HO κ (AA 2) hf nx ct ++ (hW κ Hs gh 10 ++ (SW κ (AA 3) g1 ++ (SO la (AA 3 0) f1 ++ (SW κ (AA 4) g2 ++ (SO lb (AA 4 0) f2 ++ (OW κ (AA 5) no ot ++ (SW κ (AA 7) gp ++ PW κ (AA 6) (AA 7) eo v tx))))))))))))) pmM (fun _ => pmM.symm) rfl (Nat.le_of_ble_eq_true rfl) dL_law_622 ⟨by show _ ≤ 601024; omega, by show _ ≤ 7293034; omega⟩ (fun _ _ => ?_)
  refine z_iload C dL_law_625 1 rfl ?_
  refine z_icmpE C 632 rfl dL_law_627 (by decide) ?_
  refine z_iload C dL_law_632 1 rfl ?_
  refine z_if_ne C 656 dL_law_634 (by decide) (fun q => absurd (by decide) q) (fun _ => ?_)
  refine z_aload_n C dL_law_637 5 rfl ?_
  refine z_iconst (v := nI 0) C dL_law_638 (by decide) ?_
  refine z_lald C 0 4 rfl rfl (i := 0) (by decide) (by decide) dL_law_639 ?_
  refine z_iload C dL_law_640 0 rfl ?_
  refine zb_if_eq C 649 dL_law_642 (by decide) (fun h1 => ?_) (fun h2 => ?_)
  · refine z_lconst (v := 0) C dL_law_649 (by decide) ?_
    refine z_lcmpE C (updL_0.trans (by rw [h1]; rfl)) dL_law_650 ?_
    refine z_if_eq C 656 dL_law_651 (by decide) (fun _ => ?_) (fun q => absurd (by decide) q)
    refine z_goto (tgt := 2685) C dL_law_656 (by decide) ?_
    refine z_lv [2, 3, 4, 5, 6] rfl ?_
    exact K (vp_updL fo 0 (((nI (decide (σ (5 + 6 * b + 3) = 1)).toNat)).toInt64)) g f g1 g2 gp gh nx ct f1 f2 no ot eo v tx ip (upN w 1 0) σ aw h s2 cells slots (by omega) (by omega) ((H.mono (by omega) (by omega)).w1 _)
  · refine z_lconst (v := 1) C dL_law_645 (by decide) ?_
    refine z_goto (tgt := 650) C dL_law_646 (by decide) ?_
    refine z_lcmpE C (updL_0.trans (by rw [h2]; rfl)) dL_law_650 ?_
    refine z_if_eq C 656 dL_law_651 (by decide) (fun _ => ?_) (fun q => absurd (by decide) q)
    refine z_goto (tgt := 2685) C dL_law_656 (by decide) ?_
    refine z_lv [2, 3, 4, 5, 6] rfl ?_
    exact K (vp_updL fo 0 (((nI (decide (σ (5 + 6 * b + 3) = 1)).toNat)).toInt64)) g f g1 g2 gp gh nx ct f1 f2 no ot eo v tx ip (upN w 1 0) σ aw h s2 cells slots (by omega) (by omega) ((H.mono (by omega) (by omega)).w1 _)
set_option maxRecDepth 100000 in
set_option maxHeartbeats 8000000 in
theorem lc_8_no (C : zC p s m args c cL_law 9 wsL_law RL D (zTy κ) A) (hXc : aX adK adV A s s.heap) (hls : l.stackTraces = false) (hX : va_X sc L xs s s.heap) (hb0 : sc < s.heap.size) (hA0 : ¬ A sc) (hhf : ∀ j, j < 10 → hf j = some (Hs j 0)) (hi6 : i + 6 ≤ L) (hL : L ≤ 3072) (hcr : cells + 1 ≤ 601024 ∧ slots + 6 ≤ 7293034) (H : LI M g g1 g2 gh nx ct f1 f2 no v tx ip w σ h s2) (hM1 : 700000 ≤ M) (hM : M ≤ 1400000) (K : LGO p l e s m args below meth c D A Q sc κ ra la lb oa Ad AA Hs hf 2685 (M + 1200) i (cells + 1) (slots + 6)) (x : Int32) (hx : isB (σ 1) x = false) (hx19 : xs (i + 1) = x) : zW p l e RML s m args below meth c 9 D A cells slots Q (LAWW κ ra la lb oa Ad AA Hs hf fo g f g1 g2 gp gh nx ct f1 f2 no ot eo v tx ip w σ aw h s2) [(0, .ref (sc)), (1, .ref (ra)), (2, .ref (Ad 0)), (3, .ref (oa)), (4, .int (nI i))] 596 [] := by
  obtain ⟨hr, hv, ht0⟩ := id H.1
  obtain ⟨hnx, hct, h5, -⟩ := id H.2.1
  obtain ⟨q1, q2, h7, -, -⟩ := id H.2.2.1
  obtain ⟨v1, hw9, v2, ht⟩ := id H.2.2.2.1
  obtain ⟨hno, hn64⟩ := id H.2.2.2.2
  have n1 := hv.n1
  have n2 := hv.n2
  refine z_aload_n C dL_law_596 1 rfl ?_
  refine z_aload_n C dL_law_597 0 rfl ?_
  refine z_iload C dL_law_598 4 rfl ?_
  refine z_iconst (v := nI 1) C dL_law_600 (by decide) ?_
  refine zn_iadd C dL_law_601 ?_
  refine z_sld C hX hb0 hA0 (i := i + 1) (by omega) (by omega) hx19 dL_law_602 ?_
  refine z_aload_n C dL_law_603 3 rfl ?_
  refine zh_callS C (aX_ok adK adV) hXc (mL_isBend_no l D κ adK adV (AA 0) g ra (AA 1 0) (AA 2 0) la lb (AA 6 0) (AA 5 0) σ M x hls hr hv hx oa fo) gL_law_L_isBend rfl rfl rfl hdL_isBend ⟨(Nat.le_of_ble_eq_true rfl), (Nat.le_of_ble_eq_true rfl)⟩ _ (fun u1 => OUTW κ oa fo ++ (MW κ Ad eo ip w σ aw (hiF h) (hiF s2) ot ++ (SW κ (AA 0) g ++ (RC ra (AA 0 0) (AA 1 0) (AA 2 0) la lb (AA 6 0) (AA 5 0) ++ (SW κ (AA 1) f ++ (HO κ (AA 2) hf nx ct ++ (hW κ Hs gh 10 ++ (SW κ (AA 3) g1 ++ (SO la (AA 3 0) f1 ++ (SW κ (AA 4) g2 ++ (SO lb (AA 4 0) f2 ++ (OW κ (AA 5) no ot ++ (SW κ (AA 7) gp ++ PW κ (AA 6) (AA 7) eo v tx))))))))))))) pmH_S (fun u1 => pmH_S.symm) rfl (Nat.le_of_ble_eq_true rfl) dL_law_604 ⟨by show _ ≤ 601024; omega, by show _ ≤ 7293034; omega⟩ (fun u1 hu1 => ?_)
  refine z_istore C [(5, .int (nI 1)), (0, .ref (sc)), (1, .ref (ra)), (2, .ref (Ad 0)), (3, .ref (oa)), (4, .int (nI i))] dL_law_607 (by decide) rfl ?_
  refine z_aload_n C dL_law_609 3 rfl ?_
  refine z_aload_n C dL_law_610 1 rfl ?_
  refine z_iload C dL_law_611 5 rfl ?_
  refine z_iconst (v := nI 1) C dL_law_613 (by decide) ?_
  refine zn_iadd C dL_law_614 ?_
  refine z_sld C hX hb0 hA0 (i := i + 1) (by omega) (by omega) hx19 dL_law_615 ?_
  refine z_callV C (mX6_isBend_no l D κ Ad eo ip w σ aw (hiF h) (hiF s2) ot M x hv.1 hx) gL_law_X6_isBend rfl rfl rfl hdX6_isBend ⟨(Nat.le_of_ble_eq_true rfl), (Nat.le_of_ble_eq_true rfl)⟩ 0 rfl rfl _ (fun u2 => OUTW κ oa fo ++ (MW κ Ad eo ip (upN w 1 1) σ aw (hiF h) (hiF s2) ot ++ (SW κ (AA 0) g ++ (RC ra (AA 0 0) (AA 1 0) (AA 2 0) la lb (AA 6 0) (AA 5 0) ++ (SW κ (AA 1) f ++ (HO κ (AA 2) hf nx ct ++ (hW κ Hs gh 10 ++ (SW κ (AA 3) g1 ++ (SO la (AA 3 0) f1 ++ (SW κ (AA 4) g2 ++ (SO lb (AA 4 0) f2 ++ (OW κ (AA 5) no ot ++ (SW κ (AA 7) gp ++ PW κ (AA 6) (AA 7) eo v tx))))))))))))) pmM (fun u2 => pmM.symm) rfl (Nat.le_of_ble_eq_true rfl) dL_law_616 ⟨by show _ ≤ 601024; omega, by show _ ≤ 7293034; omega⟩ (fun u2 hu2 => ?_)
  refine z_istore C [(6, .int (nI (false).toNat)), (5, .int (nI 1)), (0, .ref (sc)), (1, .ref (ra)), (2, .ref (Ad 0)), (3, .ref (oa)), (4, .int (nI i))] dL_law_619 (by decide) rfl ?_
  refine z_aload_n C dL_law_621 4 rfl ?_
  refine z_callV C (mX6_thrown l D κ Ad eo ip (upN w 1 1) σ aw (hiF h) (hiF s2) ot) gL_law_X6_thrown rfl rfl rfl hdX6_thrown ⟨(Nat.le_of_ble_eq_true rfl), (Nat.le_of_ble_eq_true rfl)⟩ 0 rfl rfl _ (fun _ => OUTW κ oa fo ++ (MW κ Ad eo ip (upN w 1 1) σ aw (hiF h) (hiF s2) ot ++ (SW κ (AA 0) g ++ (RC ra (AA 0 0) (AA 1 0) (AA 2 0) la lb (AA 6 0) (AA 5 0) ++ (SW κ (AA 1) f ++ (HO κ (AA 2) hf nx ct ++ (hW κ Hs gh 10 ++ (SW κ (AA 3) g1 ++ (SO la (AA 3 0) f1 ++ (SW κ (AA 4) g2 ++ (SO lb (AA 4 0) f2 ++ (OW κ (AA 5) no ot ++ (SW κ (AA 7) gp ++ PW κ (AA 6) (AA 7) eo v tx))))))))))))) pmM (fun _ => pmM.symm) rfl (Nat.le_of_ble_eq_true rfl) dL_law_622 ⟨by show _ ≤ 601024; omega, by show _ ≤ 7293034; omega⟩ (fun _ _ => ?_)
  refine z_iload C dL_law_625 1 rfl ?_
  refine z_icmpE C 632 rfl dL_law_627 (by decide) ?_
  refine z_iload C dL_law_632 1 rfl ?_
  refine z_if_ne C 656 dL_law_634 (by decide) (fun _ => ?_) (fun q => absurd q (by decide))
  refine z_goto (tgt := 2685) C dL_law_656 (by decide) ?_
  refine z_lv [2, 3, 4, 5, 6] rfl ?_
  exact K fo g f g1 g2 gp gh nx ct f1 f2 no ot eo v tx ip (upN w 1 1) σ aw h s2 (cells + 1) (slots + 6) (by omega) (by omega) ((H.mono (by omega) (by omega)).w1 _)
end LC
