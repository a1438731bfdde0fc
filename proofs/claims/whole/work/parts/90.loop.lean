section LOOP
variable {p : Program} {l : Launch} {e : Env} {s : State} {m : MethodId} {args : Array Value} {below : List Frame} {meth : Method} {c : Code} {D : va_G} {A : Nat → Prop} {cells slots : Nat} {Q : State → Prop} {sc L : Nat} {xs : Nat → Int32} {κ : Nat → ClassId} {adK adV : Nat → Nat} {ra la lb oa : Nat} {Ad : Nat → Nat} {AA : Nat → Nat → Nat} {Hs : Nat → Nat → Nat} {hf : Nat → Option Nat} {fo : Nat → Int64} {g f g1 g2 gp : Nat → Nat → Nat} {gh : Nat → Nat → Nat → Nat} {nx ct f1 f2 no : Nat} {ot : Nat → Nat} {eo : Int32} {v : Nat → Nat} {tx ip : Nat → Int32} {w σ aw : Nat → Nat} {h s2 : Nat → Nat → Nat} {M i : Nat}
set_option maxRecDepth 100000 in
theorem law_loop (C : zC p s m args c cL_law 9 wsL_law RL D (zTy κ) A) (hXc : aX adK adV A s s.heap) (hls : l.stackTraces = false) (hX : va_X sc L xs s s.heap) (hb0 : sc < s.heap.size) (hA0 : ¬ A sc) (hhf : ∀ j, j < 10 → hf j = some (Hs j 0)) (hL : L ≤ 3072) (KE : ∀ M' i', LGO p l e s m args below meth c D A Q sc κ ra la lb oa Ad AA Hs hf 2691 M' i' 100000 1000000) : ∀ (t i M C1 S1 : Nat), L ≤ i + 6 * t + 5 → i ≤ L → 700000 ≤ M → M + 1200 * t ≤ 1400000 → C1 + t ≤ 100000 → S1 + 6 * t ≤ 1000000 → LGO p l e s m args below meth c D A Q sc κ ra la lb oa Ad AA Hs hf 23 M i C1 S1 := by
  intro t
  induction t with
  | zero =>
    intro i M C1 S1 h1 h2 h3 h4 h5 h6 fo g f g1 g2 gp gh nx ct f1 f2 no ot eo v tx ip w σ aw h s2 c' s' hc hs H
    refine z_iload C dL_law_23 4 rfl ?_
    refine z_aload_n C dL_law_25 0 rfl ?_
    refine z_slen C hX hb0 hA0 dL_law_26 ?_
    refine z_bipush (v := nI 6) C dL_law_27 (by decide) ?_
    refine z_isub C dL_law_29 ?_
    refine z_icmp_gt C 2691 dL_law_30 (by decide) (fun q => ?_) (fun q => ?_)
    · exact KE M i fo g f g1 g2 gp gh nx ct f1 f2 no ot eo v tx ip w σ aw h s2 c' s' (by omega) (by omega) H
    · exact absurd (sub6 (by omega) (by omega) q) (by omega)
  | succ t ih =>
    intro i M C1 S1 h1 h2 h3 h4 h5 h6 fo g f g1 g2 gp gh nx ct f1 f2 no ot eo v tx ip w σ aw h s2 c' s' hc hs H
    refine z_iload C dL_law_23 4 rfl ?_
    refine z_aload_n C dL_law_25 0 rfl ?_
    refine z_slen C hX hb0 hA0 dL_law_26 ?_
    refine z_bipush (v := nI 6) C dL_law_27 (by decide) ?_
    refine z_isub C dL_law_29 ?_
    refine z_icmp_gt C 2691 dL_law_30 (by decide) (fun q => ?_) (fun q => ?_)
    · exact KE M i fo g f g1 g2 gp gh nx ct f1 f2 no ot eo v tx ip w σ aw h s2 c' s' (by omega) (by omega) H
    · have hi6 := sub6 (by omega) (by omega) q
      refine z_aload_n C dL_law_33 0 rfl ?_
      refine z_iload C dL_law_34 4 rfl ?_
      refine z_sld C hX hb0 hA0 (i := i) (by omega) (by omega) rfl dL_law_36 ?_
      refine z_bipush (v := nI 63) C dL_law_37 (by decide) ?_
      refine z_iand C dL_law_39 ?_
      obtain ⟨j, hj, ej⟩ := and63 (xs i)
      rw [ej]
      refine lc_all C hXc hls hX hb0 hA0 hhf hi6 hL ⟨by omega, by omega⟩ H h3 (by omega) ?_ j hj
      intro fo9 g9 f9 g19 g29 gp9 gh9 nx9 ct9 f19 f29 no9 ot9 eo9 v9 tx9 ip9 w9 σ9 aw9 h9 s29 c9 s9 hc9 hs9 H9
      refine zn_iinc (n := 6) C [(4, .int (nI (i + 6))), (0, .ref sc), (1, .ref ra), (2, .ref (Ad 0)), (3, .ref oa)] dL_law_2685 4 rfl (by decide) rfl ?_
      refine z_goto (tgt := 23) C dL_law_2688 (by decide) ?_
      refine z_lv [1, 2, 3, 4, 0] rfl ?_
      exact ih (i + 6) (M + 1200) (C1 + 1) (S1 + 6) (by omega) (by omega) (by omega) (by omega) (by omega) (by omega) fo9 g9 f9 g19 g29 gp9 gh9 nx9 ct9 f19 f29 no9 ot9 eo9 v9 tx9 ip9 w9 σ9 aw9 h9 s29 c9 s9 (by omega) (by omega) H9
end LOOP
