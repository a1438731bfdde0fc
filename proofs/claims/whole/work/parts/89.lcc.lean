section LCC
variable {p : Program} {l : Launch} {e : Env} {s : State} {m : MethodId} {args : Array Value} {below : List Frame} {meth : Method} {c : Code} {D : va_G} {A : Nat → Prop} {cells slots : Nat} {Q : State → Prop} {sc L : Nat} {xs : Nat → Int32} {κ : Nat → ClassId} {adK adV : Nat → Nat} {ra la lb oa : Nat} {Ad : Nat → Nat} {AA : Nat → Nat → Nat} {Hs : Nat → Nat → Nat} {hf : Nat → Option Nat} {fo : Nat → Int64} {g f g1 g2 gp : Nat → Nat → Nat} {gh : Nat → Nat → Nat → Nat} {nx ct f1 f2 no : Nat} {ot : Nat → Nat} {eo : Int32} {v : Nat → Nat} {tx ip : Nat → Int32} {w σ aw : Nat → Nat} {h s2 : Nat → Nat → Nat} {M i : Nat}
set_option maxRecDepth 100000 in
theorem lc_0 (C : zC p s m args c cL_law 9 wsL_law RL D (zTy κ) A) (hXc : aX adK adV A s s.heap) (hls : l.stackTraces = false) (hX : va_X sc L xs s s.heap) (hb0 : sc < s.heap.size) (hA0 : ¬ A sc) (hhf : ∀ j, j < 10 → hf j = some (Hs j 0)) (hi6 : i + 6 ≤ L) (hL : L ≤ 3072) (hcr : cells + 1 ≤ 601024 ∧ slots + 6 ≤ 7293034) (H : LI M g g1 g2 gh nx ct f1 f2 no v tx ip w σ h s2) (hM1 : 700000 ≤ M) (hM : M ≤ 1400000) (K : LGO p l e s m args below meth c D A Q sc κ ra la lb oa Ad AA Hs hf 2685 (M + 1200) i (cells + 1) (slots + 6)) : zW p l e RML s m args below meth c 9 D A cells slots Q (LAWW κ ra la lb oa Ad AA Hs hf fo g f g1 g2 gp gh nx ct f1 f2 no ot eo v tx ip w σ aw h s2) [(0, .ref (sc)), (1, .ref (ra)), (2, .ref (Ad 0)), (3, .ref (oa)), (4, .int (nI i))] 272 [] := by
  obtain ⟨hr, hv, ht0⟩ := id H.1
  obtain ⟨hnx, hct, h5, -⟩ := id H.2.1
  obtain ⟨q1, q2, h7, -, -⟩ := id H.2.2.1
  obtain ⟨v1, hw9, v2, ht⟩ := id H.2.2.2.1
  obtain ⟨hno, hn64⟩ := id H.2.2.2.2
  have n1 := hv.n1
  have n2 := hv.n2
  by_cases hc : v 1 ≤ 580
  · exact lc_0_ok C hXc hls hX hb0 hA0 hhf hi6 hL hcr H hM1 hM K (xs (i + 1)) (xs (i + 2)) (xs (i + 3)) (xs (i + 4)) (xs (i + 5)) hc rfl rfl rfl rfl rfl
  · exact lc_0_no C hXc hls hX hb0 hA0 hhf hi6 hL hcr H hM1 hM K (xs (i + 1)) (xs (i + 2)) (xs (i + 3)) (xs (i + 4)) (xs (i + 5)) (by omega) rfl rfl rfl rfl rfl
set_option maxRecDepth 100000 in
theorem lc_1 (C : zC p s m args c cL_law 9 wsL_law RL D (zTy κ) A) (hXc : aX adK adV A s s.heap) (hls : l.stackTraces = false) (hX : va_X sc L xs s s.heap) (hb0 : sc < s.heap.size) (hA0 : ¬ A sc) (hhf : ∀ j, j < 10 → hf j = some (Hs j 0)) (hi6 : i + 6 ≤ L) (hL : L ≤ 3072) (hcr : cells + 1 ≤ 601024 ∧ slots + 6 ≤ 7293034) (H : LI M g g1 g2 gh nx ct f1 f2 no v tx ip w σ h s2) (hM1 : 700000 ≤ M) (hM : M ≤ 1400000) (K : LGO p l e s m args below meth c D A Q sc κ ra la lb oa Ad AA Hs hf 2685 (M + 1200) i (cells + 1) (slots + 6)) : zW p l e RML s m args below meth c 9 D A cells slots Q (LAWW κ ra la lb oa Ad AA Hs hf fo g f g1 g2 gp gh nx ct f1 f2 no ot eo v tx ip w σ aw h s2) [(0, .ref (sc)), (1, .ref (ra)), (2, .ref (Ad 0)), (3, .ref (oa)), (4, .int (nI i))] 376 [] := by
  obtain ⟨hr, hv, ht0⟩ := id H.1
  obtain ⟨hnx, hct, h5, -⟩ := id H.2.1
  obtain ⟨q1, q2, h7, -, -⟩ := id H.2.2.1
  obtain ⟨v1, hw9, v2, ht⟩ := id H.2.2.2.1
  obtain ⟨hno, hn64⟩ := id H.2.2.2.2
  have n1 := hv.n1
  have n2 := hv.n2
  rcases hq1 : isB (v 1 + 1) (xs (i + 1)) with _ | _
  · exact lc_1_no C hXc hls hX hb0 hA0 hhf hi6 hL hcr H hM1 hM K (xs (i + 1)) hq1 rfl
  · obtain ⟨n, hn, e1⟩ := isB_of (by omega) hq1
    rcases hpt : pText tx n with ⟨c0, e0⟩ | τ
    · exact lc_1_err C hXc hls hX hb0 hA0 hhf hi6 hL hcr H hM1 hM K n c0 e0 (by omega) hpt e1
    · exact lc_1_ok C hXc hls hX hb0 hA0 hhf hi6 hL hcr H hM1 hM K n τ (by omega) hpt e1
set_option maxRecDepth 100000 in
theorem lc_6 (C : zC p s m args c cL_law 9 wsL_law RL D (zTy κ) A) (hXc : aX adK adV A s s.heap) (hls : l.stackTraces = false) (hX : va_X sc L xs s s.heap) (hb0 : sc < s.heap.size) (hA0 : ¬ A sc) (hhf : ∀ j, j < 10 → hf j = some (Hs j 0)) (hi6 : i + 6 ≤ L) (hL : L ≤ 3072) (hcr : cells + 1 ≤ 601024 ∧ slots + 6 ≤ 7293034) (H : LI M g g1 g2 gh nx ct f1 f2 no v tx ip w σ h s2) (hM1 : 700000 ≤ M) (hM : M ≤ 1400000) (K : LGO p l e s m args below meth c D A Q sc κ ra la lb oa Ad AA Hs hf 2685 (M + 1200) i (cells + 1) (slots + 6)) : zW p l e RML s m args below meth c 9 D A cells slots Q (LAWW κ ra la lb oa Ad AA Hs hf fo g f g1 g2 gp gh nx ct f1 f2 no ot eo v tx ip w σ aw h s2) [(0, .ref (sc)), (1, .ref (ra)), (2, .ref (Ad 0)), (3, .ref (oa)), (4, .int (nI i))] 484 [] := by
  obtain ⟨hr, hv, ht0⟩ := id H.1
  obtain ⟨hnx, hct, h5, -⟩ := id H.2.1
  obtain ⟨q1, q2, h7, -, -⟩ := id H.2.2.1
  obtain ⟨v1, hw9, v2, ht⟩ := id H.2.2.2.1
  obtain ⟨hno, hn64⟩ := id H.2.2.2.2
  have n1 := hv.n1
  have n2 := hv.n2
  rcases hq1 : isB (σ 1) (xs (i + 1)) with _ | _
  · exact lc_6_no C hXc hls hX hb0 hA0 hhf hi6 hL hcr H hM1 hM K (xs (i + 1)) hq1 rfl
  · obtain ⟨b, hb, e1⟩ := isB_of (by omega) hq1
    exact lc_6_ok C hXc hls hX hb0 hA0 hhf hi6 hL hcr H hM1 hM K b hb e1
set_option maxRecDepth 100000 in
theorem lc_7 (C : zC p s m args c cL_law 9 wsL_law RL D (zTy κ) A) (hXc : aX adK adV A s s.heap) (hls : l.stackTraces = false) (hX : va_X sc L xs s s.heap) (hb0 : sc < s.heap.size) (hA0 : ¬ A sc) (hhf : ∀ j, j < 10 → hf j = some (Hs j 0)) (hi6 : i + 6 ≤ L) (hL : L ≤ 3072) (hcr : cells + 1 ≤ 601024 ∧ slots + 6 ≤ 7293034) (H : LI M g g1 g2 gh nx ct f1 f2 no v tx ip w σ h s2) (hM1 : 700000 ≤ M) (hM : M ≤ 1400000) (K : LGO p l e s m args below meth c D A Q sc κ ra la lb oa Ad AA Hs hf 2685 (M + 1200) i (cells + 1) (slots + 6)) : zW p l e RML s m args below meth c 9 D A cells slots Q (LAWW κ ra la lb oa Ad AA Hs hf fo g f g1 g2 gp gh nx ct f1 f2 no ot eo v tx ip w σ aw h s2) [(0, .ref (sc)), (1, .ref (ra)), (2, .ref (Ad 0)), (3, .ref (oa)), (4, .int (nI i))] 540 [] := by
  obtain ⟨hr, hv, ht0⟩ := id H.1
  obtain ⟨hnx, hct, h5, -⟩ := id H.2.1
  obtain ⟨q1, q2, h7, -, -⟩ := id H.2.2.1
  obtain ⟨v1, hw9, v2, ht⟩ := id H.2.2.2.1
  obtain ⟨hno, hn64⟩ := id H.2.2.2.2
  have n1 := hv.n1
  have n2 := hv.n2
  rcases hq1 : isB (σ 1) (xs (i + 1)) with _ | _
  · exact lc_7_no C hXc hls hX hb0 hA0 hhf hi6 hL hcr H hM1 hM K (xs (i + 1)) hq1 rfl
  · obtain ⟨b, hb, e1⟩ := isB_of (by omega) hq1
    exact lc_7_ok C hXc hls hX hb0 hA0 hhf hi6 hL hcr H hM1 hM K b hb e1
set_option maxRecDepth 100000 in
theorem lc_8 (C : zC p s m args c cL_law 9 wsL_law RL D (zTy κ) A) (hXc : aX adK adV A s s.heap) (hls : l.stackTraces = false) (hX : va_X sc L xs s s.heap) (hb0 : sc < s.heap.size) (hA0 : ¬ A sc) (hhf : ∀ j, j < 10 → hf j = some (Hs j 0)) (hi6 : i + 6 ≤ L) (hL : L ≤ 3072) (hcr : cells + 1 ≤ 601024 ∧ slots + 6 ≤ 7293034) (H : LI M g g1 g2 gh nx ct f1 f2 no v tx ip w σ h s2) (hM1 : 700000 ≤ M) (hM : M ≤ 1400000) (K : LGO p l e s m args below meth c D A Q sc κ ra la lb oa Ad AA Hs hf 2685 (M + 1200) i (cells + 1) (slots + 6)) : zW p l e RML s m args below meth c 9 D A cells slots Q (LAWW κ ra la lb oa Ad AA Hs hf fo g f g1 g2 gp gh nx ct f1 f2 no ot eo v tx ip w σ aw h s2) [(0, .ref (sc)), (1, .ref (ra)), (2, .ref (Ad 0)), (3, .ref (oa)), (4, .int (nI i))] 596 [] := by
  obtain ⟨hr, hv, ht0⟩ := id H.1
  obtain ⟨hnx, hct, h5, -⟩ := id H.2.1
  obtain ⟨q1, q2, h7, -, -⟩ := id H.2.2.1
  obtain ⟨v1, hw9, v2, ht⟩ := id H.2.2.2.1
  obtain ⟨hno, hn64⟩ := id H.2.2.2.2
  have n1 := hv.n1
  have n2 := hv.n2
  rcases hq1 : isB (σ 1) (xs (i + 1)) with _ | _
  · exact lc_8_no C hXc hls hX hb0 hA0 hhf hi6 hL hcr H hM1 hM K (xs (i + 1)) hq1 rfl
  · obtain ⟨b, hb, e1⟩ := isB_of (by omega) hq1
    exact lc_8_ok C hXc hls hX hb0 hA0 hhf hi6 hL hcr H hM1 hM K b hb e1
set_option maxRecDepth 100000 in
theorem lc_9 (C : zC p s m args c cL_law 9 wsL_law RL D (zTy κ) A) (hXc : aX adK adV A s s.heap) (hls : l.stackTraces = false) (hX : va_X sc L xs s s.heap) (hb0 : sc < s.heap.size) (hA0 : ¬ A sc) (hhf : ∀ j, j < 10 → hf j = some (Hs j 0)) (hi6 : i + 6 ≤ L) (hL : L ≤ 3072) (hcr : cells + 1 ≤ 601024 ∧ slots + 6 ≤ 7293034) (H : LI M g g1 g2 gh nx ct f1 f2 no v tx ip w σ h s2) (hM1 : 700000 ≤ M) (hM : M ≤ 1400000) (K : LGO p l e s m args below meth c D A Q sc κ ra la lb oa Ad AA Hs hf 2685 (M + 1200) i (cells + 1) (slots + 6)) : zW p l e RML s m args below meth c 9 D A cells slots Q (LAWW κ ra la lb oa Ad AA Hs hf fo g f g1 g2 gp gh nx ct f1 f2 no ot eo v tx ip w σ aw h s2) [(0, .ref (sc)), (1, .ref (ra)), (2, .ref (Ad 0)), (3, .ref (oa)), (4, .int (nI i))] 659 [] := by
  obtain ⟨hr, hv, ht0⟩ := id H.1
  obtain ⟨hnx, hct, h5, -⟩ := id H.2.1
  obtain ⟨q1, q2, h7, -, -⟩ := id H.2.2.1
  obtain ⟨v1, hw9, v2, ht⟩ := id H.2.2.2.1
  obtain ⟨hno, hn64⟩ := id H.2.2.2.2
  have n1 := hv.n1
  have n2 := hv.n2
  rcases hq1 : isB (σ 1) (xs (i + 1)) with _ | _
  · exact lc_9_no C hXc hls hX hb0 hA0 hhf hi6 hL hcr H hM1 hM K (xs (i + 1)) hq1 rfl
  · obtain ⟨b, hb, e1⟩ := isB_of (by omega) hq1
    exact lc_9_ok C hXc hls hX hb0 hA0 hhf hi6 hL hcr H hM1 hM K b hb e1
set_option maxRecDepth 100000 in
theorem lc_10 (C : zC p s m args c cL_law 9 wsL_law RL D (zTy κ) A) (hXc : aX adK adV A s s.heap) (hls : l.stackTraces = false) (hX : va_X sc L xs s s.heap) (hb0 : sc < s.heap.size) (hA0 : ¬ A sc) (hhf : ∀ j, j < 10 → hf j = some (Hs j 0)) (hi6 : i + 6 ≤ L) (hL : L ≤ 3072) (hcr : cells + 1 ≤ 601024 ∧ slots + 6 ≤ 7293034) (H : LI M g g1 g2 gh nx ct f1 f2 no v tx ip w σ h s2) (hM1 : 700000 ≤ M) (hM : M ≤ 1400000) (K : LGO p l e s m args below meth c D A Q sc κ ra la lb oa Ad AA Hs hf 2685 (M + 1200) i (cells + 1) (slots + 6)) : zW p l e RML s m args below meth c 9 D A cells slots Q (LAWW κ ra la lb oa Ad AA Hs hf fo g f g1 g2 gp gh nx ct f1 f2 no ot eo v tx ip w σ aw h s2) [(0, .ref (sc)), (1, .ref (ra)), (2, .ref (Ad 0)), (3, .ref (oa)), (4, .int (nI i))] 715 [] := by
  obtain ⟨hr, hv, ht0⟩ := id H.1
  obtain ⟨hnx, hct, h5, -⟩ := id H.2.1
  obtain ⟨q1, q2, h7, -, -⟩ := id H.2.2.1
  obtain ⟨v1, hw9, v2, ht⟩ := id H.2.2.2.1
  obtain ⟨hno, hn64⟩ := id H.2.2.2.2
  have n1 := hv.n1
  have n2 := hv.n2
  rcases hq1 : isB (σ 1) (xs (i + 1)) with _ | _
  · exact lc_10_no C hXc hls hX hb0 hA0 hhf hi6 hL hcr H hM1 hM K (xs (i + 1)) hq1 rfl
  · obtain ⟨b, hb, e1⟩ := isB_of (by omega) hq1
    exact lc_10_ok C hXc hls hX hb0 hA0 hhf hi6 hL hcr H hM1 hM K b hb e1
set_option maxRecDepth 100000 in
theorem lc_11 (C : zC p s m args c cL_law 9 wsL_law RL D (zTy κ) A) (hXc : aX adK adV A s s.heap) (hls : l.stackTraces = false) (hX : va_X sc L xs s s.heap) (hb0 : sc < s.heap.size) (hA0 : ¬ A sc) (hhf : ∀ j, j < 10 → hf j = some (Hs j 0)) (hi6 : i + 6 ≤ L) (hL : L ≤ 3072) (hcr : cells + 1 ≤ 601024 ∧ slots + 6 ≤ 7293034) (H : LI M g g1 g2 gh nx ct f1 f2 no v tx ip w σ h s2) (hM1 : 700000 ≤ M) (hM : M ≤ 1400000) (K : LGO p l e s m args below meth c D A Q sc κ ra la lb oa Ad AA Hs hf 2685 (M + 1200) i (cells + 1) (slots + 6)) : zW p l e RML s m args below meth c 9 D A cells slots Q (LAWW κ ra la lb oa Ad AA Hs hf fo g f g1 g2 gp gh nx ct f1 f2 no ot eo v tx ip w σ aw h s2) [(0, .ref (sc)), (1, .ref (ra)), (2, .ref (Ad 0)), (3, .ref (oa)), (4, .int (nI i))] 778 [] := by
  obtain ⟨hr, hv, ht0⟩ := id H.1
  obtain ⟨hnx, hct, h5, -⟩ := id H.2.1
  obtain ⟨q1, q2, h7, -, -⟩ := id H.2.2.1
  obtain ⟨v1, hw9, v2, ht⟩ := id H.2.2.2.1
  obtain ⟨hno, hn64⟩ := id H.2.2.2.2
  have n1 := hv.n1
  have n2 := hv.n2
  rcases hq1 : isB (σ 1) (xs (i + 1)) with _ | _
  · exact lc_11_no C hXc hls hX hb0 hA0 hhf hi6 hL hcr H hM1 hM K (xs (i + 1)) hq1 rfl
  · obtain ⟨b, hb, e1⟩ := isB_of (by omega) hq1
    exact lc_11_ok C hXc hls hX hb0 hA0 hhf hi6 hL hcr H hM1 hM K b hb e1
set_option maxRecDepth 100000 in
theorem lc_12 (C : zC p s m args c cL_law 9 wsL_law RL D (zTy κ) A) (hXc : aX adK adV A s s.heap) (hls : l.stackTraces = false) (hX : va_X sc L xs s s.heap) (hb0 : sc < s.heap.size) (hA0 : ¬ A sc) (hhf : ∀ j, j < 10 → hf j = some (Hs j 0)) (hi6 : i + 6 ≤ L) (hL : L ≤ 3072) (hcr : cells + 1 ≤ 601024 ∧ slots + 6 ≤ 7293034) (H : LI M g g1 g2 gh nx ct f1 f2 no v tx ip w σ h s2) (hM1 : 700000 ≤ M) (hM : M ≤ 1400000) (K : LGO p l e s m args below meth c D A Q sc κ ra la lb oa Ad AA Hs hf 2685 (M + 1200) i (cells + 1) (slots + 6)) : zW p l e RML s m args below meth c 9 D A cells slots Q (LAWW κ ra la lb oa Ad AA Hs hf fo g f g1 g2 gp gh nx ct f1 f2 no ot eo v tx ip w σ aw h s2) [(0, .ref (sc)), (1, .ref (ra)), (2, .ref (Ad 0)), (3, .ref (oa)), (4, .int (nI i))] 834 [] := by
  obtain ⟨hr, hv, ht0⟩ := id H.1
  obtain ⟨hnx, hct, h5, -⟩ := id H.2.1
  obtain ⟨q1, q2, h7, -, -⟩ := id H.2.2.1
  obtain ⟨v1, hw9, v2, ht⟩ := id H.2.2.2.1
  obtain ⟨hno, hn64⟩ := id H.2.2.2.2
  have n1 := hv.n1
  have n2 := hv.n2
  rcases hq1 : isB (σ 1) (xs (i + 1)) with _ | _
  · exact lc_12_no C hXc hls hX hb0 hA0 hhf hi6 hL hcr H hM1 hM K (xs (i + 1)) hq1 rfl
  · obtain ⟨b, hb, e1⟩ := isB_of (by omega) hq1
    exact lc_12_ok C hXc hls hX hb0 hA0 hhf hi6 hL hcr H hM1 hM K b hb e1
set_option maxRecDepth 100000 in
theorem lc_13 (C : zC p s m args c cL_law 9 wsL_law RL D (zTy κ) A) (hXc : aX adK adV A s s.heap) (hls : l.stackTraces = false) (hX : va_X sc L xs s s.heap) (hb0 : sc < s.heap.size) (hA0 : ¬ A sc) (hhf : ∀ j, j < 10 → hf j = some (Hs j 0)) (hi6 : i + 6 ≤ L) (hL : L ≤ 3072) (hcr : cells + 1 ≤ 601024 ∧ slots + 6 ≤ 7293034) (H : LI M g g1 g2 gh nx ct f1 f2 no v tx ip w σ h s2) (hM1 : 700000 ≤ M) (hM : M ≤ 1400000) (K : LGO p l e s m args below meth c D A Q sc κ ra la lb oa Ad AA Hs hf 2685 (M + 1200) i (cells + 1) (slots + 6)) : zW p l e RML s m args below meth c 9 D A cells slots Q (LAWW κ ra la lb oa Ad AA Hs hf fo g f g1 g2 gp gh nx ct f1 f2 no ot eo v tx ip w σ aw h s2) [(0, .ref (sc)), (1, .ref (ra)), (2, .ref (Ad 0)), (3, .ref (oa)), (4, .int (nI i))] 890 [] := by
  obtain ⟨hr, hv, ht0⟩ := id H.1
  obtain ⟨hnx, hct, h5, -⟩ := id H.2.1
  obtain ⟨q1, q2, h7, -, -⟩ := id H.2.2.1
  obtain ⟨v1, hw9, v2, ht⟩ := id H.2.2.2.1
  obtain ⟨hno, hn64⟩ := id H.2.2.2.2
  have n1 := hv.n1
  have n2 := hv.n2
  rcases hq1 : isB (σ 1) (xs (i + 1)) with _ | _
  · exact lc_13_no C hXc hls hX hb0 hA0 hhf hi6 hL hcr H hM1 hM K (xs (i + 1)) hq1 rfl
  · obtain ⟨b, hb, e1⟩ := isB_of (by omega) hq1
    exact lc_13_ok C hXc hls hX hb0 hA0 hhf hi6 hL hcr H hM1 hM K b hb e1
set_option maxRecDepth 100000 in
theorem lc_14 (C : zC p s m args c cL_law 9 wsL_law RL D (zTy κ) A) (hXc : aX adK adV A s s.heap) (hls : l.stackTraces = false) (hX : va_X sc L xs s s.heap) (hb0 : sc < s.heap.size) (hA0 : ¬ A sc) (hhf : ∀ j, j < 10 → hf j = some (Hs j 0)) (hi6 : i + 6 ≤ L) (hL : L ≤ 3072) (hcr : cells + 1 ≤ 601024 ∧ slots + 6 ≤ 7293034) (H : LI M g g1 g2 gh nx ct f1 f2 no v tx ip w σ h s2) (hM1 : 700000 ≤ M) (hM : M ≤ 1400000) (K : LGO p l e s m args below meth c D A Q sc κ ra la lb oa Ad AA Hs hf 2685 (M + 1200) i (cells + 1) (slots + 6)) : zW p l e RML s m args below meth c 9 D A cells slots Q (LAWW κ ra la lb oa Ad AA Hs hf fo g f g1 g2 gp gh nx ct f1 f2 no ot eo v tx ip w σ aw h s2) [(0, .ref (sc)), (1, .ref (ra)), (2, .ref (Ad 0)), (3, .ref (oa)), (4, .int (nI i))] 946 [] := by
  obtain ⟨hr, hv, ht0⟩ := id H.1
  obtain ⟨hnx, hct, h5, -⟩ := id H.2.1
  obtain ⟨q1, q2, h7, -, -⟩ := id H.2.2.1
  obtain ⟨v1, hw9, v2, ht⟩ := id H.2.2.2.1
  obtain ⟨hno, hn64⟩ := id H.2.2.2.2
  have n1 := hv.n1
  have n2 := hv.n2
  rcases hq1 : isB (σ 1) (xs (i + 1)) with _ | _
  · exact lc_14_no C hXc hls hX hb0 hA0 hhf hi6 hL hcr H hM1 hM K (xs (i + 1)) hq1 rfl
  · obtain ⟨b, hb, e1⟩ := isB_of (by omega) hq1
    exact lc_14_ok C hXc hls hX hb0 hA0 hhf hi6 hL hcr H hM1 hM K b hb e1
set_option maxRecDepth 100000 in
theorem lc_20 (C : zC p s m args c cL_law 9 wsL_law RL D (zTy κ) A) (hXc : aX adK adV A s s.heap) (hls : l.stackTraces = false) (hX : va_X sc L xs s s.heap) (hb0 : sc < s.heap.size) (hA0 : ¬ A sc) (hhf : ∀ j, j < 10 → hf j = some (Hs j 0)) (hi6 : i + 6 ≤ L) (hL : L ≤ 3072) (hcr : cells + 1 ≤ 601024 ∧ slots + 6 ≤ 7293034) (H : LI M g g1 g2 gh nx ct f1 f2 no v tx ip w σ h s2) (hM1 : 700000 ≤ M) (hM : M ≤ 1400000) (K : LGO p l e s m args below meth c D A Q sc κ ra la lb oa Ad AA Hs hf 2685 (M + 1200) i (cells + 1) (slots + 6)) : zW p l e RML s m args below meth c 9 D A cells slots Q (LAWW κ ra la lb oa Ad AA Hs hf fo g f g1 g2 gp gh nx ct f1 f2 no ot eo v tx ip w σ aw h s2) [(0, .ref (sc)), (1, .ref (ra)), (2, .ref (Ad 0)), (3, .ref (oa)), (4, .int (nI i))] 1067 [] := by
  obtain ⟨hr, hv, ht0⟩ := id H.1
  obtain ⟨hnx, hct, h5, -⟩ := id H.2.1
  obtain ⟨q1, q2, h7, -, -⟩ := id H.2.2.1
  obtain ⟨v1, hw9, v2, ht⟩ := id H.2.2.2.1
  obtain ⟨hno, hn64⟩ := id H.2.2.2.2
  have n1 := hv.n1
  have n2 := hv.n2
  rcases hq1 : isB (σ 2) (xs (i + 1)) with _ | _
  · exact lc_20_no C hXc hls hX hb0 hA0 hhf hi6 hL hcr H hM1 hM K (xs (i + 1)) hq1 rfl
  · obtain ⟨b, hb, e1⟩ := isB_of (by omega) hq1
    exact lc_20_ok C hXc hls hX hb0 hA0 hhf hi6 hL hcr H hM1 hM K b hb e1
set_option maxRecDepth 100000 in
theorem lc_21 (C : zC p s m args c cL_law 9 wsL_law RL D (zTy κ) A) (hXc : aX adK adV A s s.heap) (hls : l.stackTraces = false) (hX : va_X sc L xs s s.heap) (hb0 : sc < s.heap.size) (hA0 : ¬ A sc) (hhf : ∀ j, j < 10 → hf j = some (Hs j 0)) (hi6 : i + 6 ≤ L) (hL : L ≤ 3072) (hcr : cells + 1 ≤ 601024 ∧ slots + 6 ≤ 7293034) (H : LI M g g1 g2 gh nx ct f1 f2 no v tx ip w σ h s2) (hM1 : 700000 ≤ M) (hM : M ≤ 1400000) (K : LGO p l e s m args below meth c D A Q sc κ ra la lb oa Ad AA Hs hf 2685 (M + 1200) i (cells + 1) (slots + 6)) : zW p l e RML s m args below meth c 9 D A cells slots Q (LAWW κ ra la lb oa Ad AA Hs hf fo g f g1 g2 gp gh nx ct f1 f2 no ot eo v tx ip w σ aw h s2) [(0, .ref (sc)), (1, .ref (ra)), (2, .ref (Ad 0)), (3, .ref (oa)), (4, .int (nI i))] 1123 [] := by
  obtain ⟨hr, hv, ht0⟩ := id H.1
  obtain ⟨hnx, hct, h5, -⟩ := id H.2.1
  obtain ⟨q1, q2, h7, -, -⟩ := id H.2.2.1
  obtain ⟨v1, hw9, v2, ht⟩ := id H.2.2.2.1
  obtain ⟨hno, hn64⟩ := id H.2.2.2.2
  have n1 := hv.n1
  have n2 := hv.n2
  rcases hq1 : isB (σ 2) (xs (i + 1)) with _ | _
  · exact lc_21_no C hXc hls hX hb0 hA0 hhf hi6 hL hcr H hM1 hM K (xs (i + 1)) hq1 rfl
  · obtain ⟨b, hb, e1⟩ := isB_of (by omega) hq1
    exact lc_21_ok C hXc hls hX hb0 hA0 hhf hi6 hL hcr H hM1 hM K b hb e1
set_option maxRecDepth 100000 in
theorem lc_22 (C : zC p s m args c cL_law 9 wsL_law RL D (zTy κ) A) (hXc : aX adK adV A s s.heap) (hls : l.stackTraces = false) (hX : va_X sc L xs s s.heap) (hb0 : sc < s.heap.size) (hA0 : ¬ A sc) (hhf : ∀ j, j < 10 → hf j = some (Hs j 0)) (hi6 : i + 6 ≤ L) (hL : L ≤ 3072) (hcr : cells + 1 ≤ 601024 ∧ slots + 6 ≤ 7293034) (H : LI M g g1 g2 gh nx ct f1 f2 no v tx ip w σ h s2) (hM1 : 700000 ≤ M) (hM : M ≤ 1400000) (K : LGO p l e s m args below meth c D A Q sc κ ra la lb oa Ad AA Hs hf 2685 (M + 1200) i (cells + 1) (slots + 6)) : zW p l e RML s m args below meth c 9 D A cells slots Q (LAWW κ ra la lb oa Ad AA Hs hf fo g f g1 g2 gp gh nx ct f1 f2 no ot eo v tx ip w σ aw h s2) [(0, .ref (sc)), (1, .ref (ra)), (2, .ref (Ad 0)), (3, .ref (oa)), (4, .int (nI i))] 1179 [] := by
  obtain ⟨hr, hv, ht0⟩ := id H.1
  obtain ⟨hnx, hct, h5, -⟩ := id H.2.1
  obtain ⟨q1, q2, h7, -, -⟩ := id H.2.2.1
  obtain ⟨v1, hw9, v2, ht⟩ := id H.2.2.2.1
  obtain ⟨hno, hn64⟩ := id H.2.2.2.2
  have n1 := hv.n1
  have n2 := hv.n2
  rcases hq1 : isB (σ 2) (xs (i + 1)) with _ | _
  · exact lc_22_no C hXc hls hX hb0 hA0 hhf hi6 hL hcr H hM1 hM K (xs (i + 1)) hq1 rfl
  · obtain ⟨b, hb, e1⟩ := isB_of (by omega) hq1
    exact lc_22_ok C hXc hls hX hb0 hA0 hhf hi6 hL hcr H hM1 hM K b hb e1
set_option maxRecDepth 100000 in
theorem lc_23 (C : zC p s m args c cL_law 9 wsL_law RL D (zTy κ) A) (hXc : aX adK adV A s s.heap) (hls : l.stackTraces = false) (hX : va_X sc L xs s s.heap) (hb0 : sc < s.heap.size) (hA0 : ¬ A sc) (hhf : ∀ j, j < 10 → hf j = some (Hs j 0)) (hi6 : i + 6 ≤ L) (hL : L ≤ 3072) (hcr : cells + 1 ≤ 601024 ∧ slots + 6 ≤ 7293034) (H : LI M g g1 g2 gh nx ct f1 f2 no v tx ip w σ h s2) (hM1 : 700000 ≤ M) (hM : M ≤ 1400000) (K : LGO p l e s m args below meth c D A Q sc κ ra la lb oa Ad AA Hs hf 2685 (M + 1200) i (cells + 1) (slots + 6)) : zW p l e RML s m args below meth c 9 D A cells slots Q (LAWW κ ra la lb oa Ad AA Hs hf fo g f g1 g2 gp gh nx ct f1 f2 no ot eo v tx ip w σ aw h s2) [(0, .ref (sc)), (1, .ref (ra)), (2, .ref (Ad 0)), (3, .ref (oa)), (4, .int (nI i))] 1235 [] := by
  obtain ⟨hr, hv, ht0⟩ := id H.1
  obtain ⟨hnx, hct, h5, -⟩ := id H.2.1
  obtain ⟨q1, q2, h7, -, -⟩ := id H.2.2.1
  obtain ⟨v1, hw9, v2, ht⟩ := id H.2.2.2.1
  obtain ⟨hno, hn64⟩ := id H.2.2.2.2
  have n1 := hv.n1
  have n2 := hv.n2
  rcases hq1 : isB (σ 2) (xs (i + 1)) with _ | _
  · exact lc_23_no C hXc hls hX hb0 hA0 hhf hi6 hL hcr H hM1 hM K (xs (i + 1)) hq1 rfl
  · obtain ⟨b, hb, e1⟩ := isB_of (by omega) hq1
    exact lc_23_ok C hXc hls hX hb0 hA0 hhf hi6 hL hcr H hM1 hM K b hb e1
set_option maxRecDepth 100000 in
theorem lc_24 (C : zC p s m args c cL_law 9 wsL_law RL D (zTy κ) A) (hXc : aX adK adV A s s.heap) (hls : l.stackTraces = false) (hX : va_X sc L xs s s.heap) (hb0 : sc < s.heap.size) (hA0 : ¬ A sc) (hhf : ∀ j, j < 10 → hf j = some (Hs j 0)) (hi6 : i + 6 ≤ L) (hL : L ≤ 3072) (hcr : cells + 1 ≤ 601024 ∧ slots + 6 ≤ 7293034) (H : LI M g g1 g2 gh nx ct f1 f2 no v tx ip w σ h s2) (hM1 : 700000 ≤ M) (hM : M ≤ 1400000) (K : LGO p l e s m args below meth c D A Q sc κ ra la lb oa Ad AA Hs hf 2685 (M + 1200) i (cells + 1) (slots + 6)) : zW p l e RML s m args below meth c 9 D A cells slots Q (LAWW κ ra la lb oa Ad AA Hs hf fo g f g1 g2 gp gh nx ct f1 f2 no ot eo v tx ip w σ aw h s2) [(0, .ref (sc)), (1, .ref (ra)), (2, .ref (Ad 0)), (3, .ref (oa)), (4, .int (nI i))] 1291 [] := by
  obtain ⟨hr, hv, ht0⟩ := id H.1
  obtain ⟨hnx, hct, h5, -⟩ := id H.2.1
  obtain ⟨q1, q2, h7, -, -⟩ := id H.2.2.1
  obtain ⟨v1, hw9, v2, ht⟩ := id H.2.2.2.1
  obtain ⟨hno, hn64⟩ := id H.2.2.2.2
  have n1 := hv.n1
  have n2 := hv.n2
  rcases hq1 : isB (σ 2) (xs (i + 1)) with _ | _
  · exact lc_24_no C hXc hls hX hb0 hA0 hhf hi6 hL hcr H hM1 hM K (xs (i + 1)) hq1 rfl
  · obtain ⟨b, hb, e1⟩ := isB_of (by omega) hq1
    exact lc_24_ok C hXc hls hX hb0 hA0 hhf hi6 hL hcr H hM1 hM K b hb e1
set_option maxRecDepth 100000 in
theorem lc_25 (C : zC p s m args c cL_law 9 wsL_law RL D (zTy κ) A) (hXc : aX adK adV A s s.heap) (hls : l.stackTraces = false) (hX : va_X sc L xs s s.heap) (hb0 : sc < s.heap.size) (hA0 : ¬ A sc) (hhf : ∀ j, j < 10 → hf j = some (Hs j 0)) (hi6 : i + 6 ≤ L) (hL : L ≤ 3072) (hcr : cells + 1 ≤ 601024 ∧ slots + 6 ≤ 7293034) (H : LI M g g1 g2 gh nx ct f1 f2 no v tx ip w σ h s2) (hM1 : 700000 ≤ M) (hM : M ≤ 1400000) (K : LGO p l e s m args below meth c D A Q sc κ ra la lb oa Ad AA Hs hf 2685 (M + 1200) i (cells + 1) (slots + 6)) : zW p l e RML s m args below meth c 9 D A cells slots Q (LAWW κ ra la lb oa Ad AA Hs hf fo g f g1 g2 gp gh nx ct f1 f2 no ot eo v tx ip w σ aw h s2) [(0, .ref (sc)), (1, .ref (ra)), (2, .ref (Ad 0)), (3, .ref (oa)), (4, .int (nI i))] 1347 [] := by
  obtain ⟨hr, hv, ht0⟩ := id H.1
  obtain ⟨hnx, hct, h5, -⟩ := id H.2.1
  obtain ⟨q1, q2, h7, -, -⟩ := id H.2.2.1
  obtain ⟨v1, hw9, v2, ht⟩ := id H.2.2.2.1
  obtain ⟨hno, hn64⟩ := id H.2.2.2.2
  have n1 := hv.n1
  have n2 := hv.n2
  rcases hq1 : isB (σ 2) (xs (i + 1)) with _ | _
  · exact lc_25_no C hXc hls hX hb0 hA0 hhf hi6 hL hcr H hM1 hM K (xs (i + 1)) hq1 rfl
  · obtain ⟨b, hb, e1⟩ := isB_of (by omega) hq1
    exact lc_25_ok C hXc hls hX hb0 hA0 hhf hi6 hL hcr H hM1 hM K b hb e1
set_option maxRecDepth 100000 in
theorem lc_26 (C : zC p s m args c cL_law 9 wsL_law RL D (zTy κ) A) (hXc : aX adK adV A s s.heap) (hls : l.stackTraces = false) (hX : va_X sc L xs s s.heap) (hb0 : sc < s.heap.size) (hA0 : ¬ A sc) (hhf : ∀ j, j < 10 → hf j = some (Hs j 0)) (hi6 : i + 6 ≤ L) (hL : L ≤ 3072) (hcr : cells + 1 ≤ 601024 ∧ slots + 6 ≤ 7293034) (H : LI M g g1 g2 gh nx ct f1 f2 no v tx ip w σ h s2) (hM1 : 700000 ≤ M) (hM : M ≤ 1400000) (K : LGO p l e s m args below meth c D A Q sc κ ra la lb oa Ad AA Hs hf 2685 (M + 1200) i (cells + 1) (slots + 6)) : zW p l e RML s m args below meth c 9 D A cells slots Q (LAWW κ ra la lb oa Ad AA Hs hf fo g f g1 g2 gp gh nx ct f1 f2 no ot eo v tx ip w σ aw h s2) [(0, .ref (sc)), (1, .ref (ra)), (2, .ref (Ad 0)), (3, .ref (oa)), (4, .int (nI i))] 1403 [] := by
  obtain ⟨hr, hv, ht0⟩ := id H.1
  obtain ⟨hnx, hct, h5, -⟩ := id H.2.1
  obtain ⟨q1, q2, h7, -, -⟩ := id H.2.2.1
  obtain ⟨v1, hw9, v2, ht⟩ := id H.2.2.2.1
  obtain ⟨hno, hn64⟩ := id H.2.2.2.2
  have n1 := hv.n1
  have n2 := hv.n2
  rcases hq1 : isB (σ 2) (xs (i + 1)) with _ | _
  · exact lc_26_no C hXc hls hX hb0 hA0 hhf hi6 hL hcr H hM1 hM K (xs (i + 1)) (xs (i + 2)) hq1 rfl rfl
  · obtain ⟨b, hb, e1⟩ := isB_of (by omega) hq1
    rcases hq2 : isB (σ 1) (xs (i + 2)) with _ | _
    · exact lc_26_nb C hXc hls hX hb0 hA0 hhf hi6 hL hcr H hM1 hM K b (xs (i + 2)) hb hq2 e1 rfl
    · obtain ⟨q, hq, e2⟩ := isB_of (by omega) hq2
      exact lc_26_ok C hXc hls hX hb0 hA0 hhf hi6 hL hcr H hM1 hM K b q hb hq e1 e2
set_option maxRecDepth 100000 in
theorem lc_28 (C : zC p s m args c cL_law 9 wsL_law RL D (zTy κ) A) (hXc : aX adK adV A s s.heap) (hls : l.stackTraces = false) (hX : va_X sc L xs s s.heap) (hb0 : sc < s.heap.size) (hA0 : ¬ A sc) (hhf : ∀ j, j < 10 → hf j = some (Hs j 0)) (hi6 : i + 6 ≤ L) (hL : L ≤ 3072) (hcr : cells + 1 ≤ 601024 ∧ slots + 6 ≤ 7293034) (H : LI M g g1 g2 gh nx ct f1 f2 no v tx ip w σ h s2) (hM1 : 700000 ≤ M) (hM : M ≤ 1400000) (K : LGO p l e s m args below meth c D A Q sc κ ra la lb oa Ad AA Hs hf 2685 (M + 1200) i (cells + 1) (slots + 6)) : zW p l e RML s m args below meth c 9 D A cells slots Q (LAWW κ ra la lb oa Ad AA Hs hf fo g f g1 g2 gp gh nx ct f1 f2 no ot eo v tx ip w σ aw h s2) [(0, .ref (sc)), (1, .ref (ra)), (2, .ref (Ad 0)), (3, .ref (oa)), (4, .int (nI i))] 1484 [] := by
  obtain ⟨hr, hv, ht0⟩ := id H.1
  obtain ⟨hnx, hct, h5, -⟩ := id H.2.1
  obtain ⟨q1, q2, h7, -, -⟩ := id H.2.2.1
  obtain ⟨v1, hw9, v2, ht⟩ := id H.2.2.2.1
  obtain ⟨hno, hn64⟩ := id H.2.2.2.2
  have n1 := hv.n1
  have n2 := hv.n2
  rcases hq1 : isB (σ 2) (xs (i + 1)) with _ | _
  · exact lc_28_no C hXc hls hX hb0 hA0 hhf hi6 hL hcr H hM1 hM K (xs (i + 1)) hq1 rfl
  · obtain ⟨b, hb, e1⟩ := isB_of (by omega) hq1
    exact lc_28_ok C hXc hls hX hb0 hA0 hhf hi6 hL hcr H hM1 hM K b hb e1
set_option maxRecDepth 100000 in
theorem lc_29 (C : zC p s m args c cL_law 9 wsL_law RL D (zTy κ) A) (hXc : aX adK adV A s s.heap) (hls : l.stackTraces = false) (hX : va_X sc L xs s s.heap) (hb0 : sc < s.heap.size) (hA0 : ¬ A sc) (hhf : ∀ j, j < 10 → hf j = some (Hs j 0)) (hi6 : i + 6 ≤ L) (hL : L ≤ 3072) (hcr : cells + 1 ≤ 601024 ∧ slots + 6 ≤ 7293034) (H : LI M g g1 g2 gh nx ct f1 f2 no v tx ip w σ h s2) (hM1 : 700000 ≤ M) (hM : M ≤ 1400000) (K : LGO p l e s m args below meth c D A Q sc κ ra la lb oa Ad AA Hs hf 2685 (M + 1200) i (cells + 1) (slots + 6)) : zW p l e RML s m args below meth c 9 D A cells slots Q (LAWW κ ra la lb oa Ad AA Hs hf fo g f g1 g2 gp gh nx ct f1 f2 no ot eo v tx ip w σ aw h s2) [(0, .ref (sc)), (1, .ref (ra)), (2, .ref (Ad 0)), (3, .ref (oa)), (4, .int (nI i))] 1540 [] := by
  obtain ⟨hr, hv, ht0⟩ := id H.1
  obtain ⟨hnx, hct, h5, -⟩ := id H.2.1
  obtain ⟨q1, q2, h7, -, -⟩ := id H.2.2.1
  obtain ⟨v1, hw9, v2, ht⟩ := id H.2.2.2.1
  obtain ⟨hno, hn64⟩ := id H.2.2.2.2
  have n1 := hv.n1
  have n2 := hv.n2
  rcases hq1 : isB (σ 2) (xs (i + 1)) with _ | _
  · exact lc_29_no C hXc hls hX hb0 hA0 hhf hi6 hL hcr H hM1 hM K (xs (i + 1)) hq1 rfl
  · obtain ⟨b, hb, e1⟩ := isB_of (by omega) hq1
    exact lc_29_ok C hXc hls hX hb0 hA0 hhf hi6 hL hcr H hM1 hM K b hb e1
set_option maxRecDepth 100000 in
theorem lc_30 (C : zC p s m args c cL_law 9 wsL_law RL D (zTy κ) A) (hXc : aX adK adV A s s.heap) (hls : l.stackTraces = false) (hX : va_X sc L xs s s.heap) (hb0 : sc < s.heap.size) (hA0 : ¬ A sc) (hhf : ∀ j, j < 10 → hf j = some (Hs j 0)) (hi6 : i + 6 ≤ L) (hL : L ≤ 3072) (hcr : cells + 1 ≤ 601024 ∧ slots + 6 ≤ 7293034) (H : LI M g g1 g2 gh nx ct f1 f2 no v tx ip w σ h s2) (hM1 : 700000 ≤ M) (hM : M ≤ 1400000) (K : LGO p l e s m args below meth c D A Q sc κ ra la lb oa Ad AA Hs hf 2685 (M + 1200) i (cells + 1) (slots + 6)) : zW p l e RML s m args below meth c 9 D A cells slots Q (LAWW κ ra la lb oa Ad AA Hs hf fo g f g1 g2 gp gh nx ct f1 f2 no ot eo v tx ip w σ aw h s2) [(0, .ref (sc)), (1, .ref (ra)), (2, .ref (Ad 0)), (3, .ref (oa)), (4, .int (nI i))] 1596 [] := by
  obtain ⟨hr, hv, ht0⟩ := id H.1
  obtain ⟨hnx, hct, h5, -⟩ := id H.2.1
  obtain ⟨q1, q2, h7, -, -⟩ := id H.2.2.1
  obtain ⟨v1, hw9, v2, ht⟩ := id H.2.2.2.1
  obtain ⟨hno, hn64⟩ := id H.2.2.2.2
  have n1 := hv.n1
  have n2 := hv.n2
  rcases hq1 : isB (σ 2) (xs (i + 1)) with _ | _
  · exact lc_30_no C hXc hls hX hb0 hA0 hhf hi6 hL hcr H hM1 hM K (xs (i + 1)) hq1 rfl
  · obtain ⟨b, hb, e1⟩ := isB_of (by omega) hq1
    exact lc_30_ok C hXc hls hX hb0 hA0 hhf hi6 hL hcr H hM1 hM K b hb e1
set_option maxRecDepth 100000 in
theorem lc_31 (C : zC p s m args c cL_law 9 wsL_law RL D (zTy κ) A) (hXc : aX adK adV A s s.heap) (hls : l.stackTraces = false) (hX : va_X sc L xs s s.heap) (hb0 : sc < s.heap.size) (hA0 : ¬ A sc) (hhf : ∀ j, j < 10 → hf j = some (Hs j 0)) (hi6 : i + 6 ≤ L) (hL : L ≤ 3072) (hcr : cells + 1 ≤ 601024 ∧ slots + 6 ≤ 7293034) (H : LI M g g1 g2 gh nx ct f1 f2 no v tx ip w σ h s2) (hM1 : 700000 ≤ M) (hM : M ≤ 1400000) (K : LGO p l e s m args below meth c D A Q sc κ ra la lb oa Ad AA Hs hf 2685 (M + 1200) i (cells + 1) (slots + 6)) : zW p l e RML s m args below meth c 9 D A cells slots Q (LAWW κ ra la lb oa Ad AA Hs hf fo g f g1 g2 gp gh nx ct f1 f2 no ot eo v tx ip w σ aw h s2) [(0, .ref (sc)), (1, .ref (ra)), (2, .ref (Ad 0)), (3, .ref (oa)), (4, .int (nI i))] 1652 [] := by
  obtain ⟨hr, hv, ht0⟩ := id H.1
  obtain ⟨hnx, hct, h5, -⟩ := id H.2.1
  obtain ⟨q1, q2, h7, -, -⟩ := id H.2.2.1
  obtain ⟨v1, hw9, v2, ht⟩ := id H.2.2.2.1
  obtain ⟨hno, hn64⟩ := id H.2.2.2.2
  have n1 := hv.n1
  have n2 := hv.n2
  rcases hq1 : isB (σ 2) (xs (i + 1)) with _ | _
  · exact lc_31_no C hXc hls hX hb0 hA0 hhf hi6 hL hcr H hM1 hM K (xs (i + 1)) hq1 rfl
  · obtain ⟨b, hb, e1⟩ := isB_of (by omega) hq1
    exact lc_31_ok C hXc hls hX hb0 hA0 hhf hi6 hL hcr H hM1 hM K b hb e1
set_option maxRecDepth 100000 in
theorem lc_32 (C : zC p s m args c cL_law 9 wsL_law RL D (zTy κ) A) (hXc : aX adK adV A s s.heap) (hls : l.stackTraces = false) (hX : va_X sc L xs s s.heap) (hb0 : sc < s.heap.size) (hA0 : ¬ A sc) (hhf : ∀ j, j < 10 → hf j = some (Hs j 0)) (hi6 : i + 6 ≤ L) (hL : L ≤ 3072) (hcr : cells + 1 ≤ 601024 ∧ slots + 6 ≤ 7293034) (H : LI M g g1 g2 gh nx ct f1 f2 no v tx ip w σ h s2) (hM1 : 700000 ≤ M) (hM : M ≤ 1400000) (K : LGO p l e s m args below meth c D A Q sc κ ra la lb oa Ad AA Hs hf 2685 (M + 1200) i (cells + 1) (slots + 6)) : zW p l e RML s m args below meth c 9 D A cells slots Q (LAWW κ ra la lb oa Ad AA Hs hf fo g f g1 g2 gp gh nx ct f1 f2 no ot eo v tx ip w σ aw h s2) [(0, .ref (sc)), (1, .ref (ra)), (2, .ref (Ad 0)), (3, .ref (oa)), (4, .int (nI i))] 1715 [] := by
  obtain ⟨hr, hv, ht0⟩ := id H.1
  obtain ⟨hnx, hct, h5, -⟩ := id H.2.1
  obtain ⟨q1, q2, h7, -, -⟩ := id H.2.2.1
  obtain ⟨v1, hw9, v2, ht⟩ := id H.2.2.2.1
  obtain ⟨hno, hn64⟩ := id H.2.2.2.2
  have n1 := hv.n1
  have n2 := hv.n2
  rcases hq1 : isB (σ 2) (xs (i + 1)) with _ | _
  · exact lc_32_no C hXc hls hX hb0 hA0 hhf hi6 hL hcr H hM1 hM K (xs (i + 1)) (xs (i + 2)) hq1 rfl rfl
  · obtain ⟨b, hb, e1⟩ := isB_of (by omega) hq1
    rcases hq2 : inI (xs (i + 2)) (nI 0) (nI 200) with _ | _
    · exact lc_32_rng C hXc hls hX hb0 hA0 hhf hi6 hL hcr H hM1 hM K b (xs (i + 2)) hb hq2 e1 rfl
    · obtain ⟨n, h1n, h2n, e2⟩ := inI_of (by decide) (by decide) hq2
      exact lc_32_ok C hXc hls hX hb0 hA0 hhf hi6 hL hcr H hM1 hM K b n hb (by omega) e1 e2
set_option maxRecDepth 100000 in
theorem lc_33 (C : zC p s m args c cL_law 9 wsL_law RL D (zTy κ) A) (hXc : aX adK adV A s s.heap) (hls : l.stackTraces = false) (hX : va_X sc L xs s s.heap) (hb0 : sc < s.heap.size) (hA0 : ¬ A sc) (hhf : ∀ j, j < 10 → hf j = some (Hs j 0)) (hi6 : i + 6 ≤ L) (hL : L ≤ 3072) (hcr : cells + 1 ≤ 601024 ∧ slots + 6 ≤ 7293034) (H : LI M g g1 g2 gh nx ct f1 f2 no v tx ip w σ h s2) (hM1 : 700000 ≤ M) (hM : M ≤ 1400000) (K : LGO p l e s m args below meth c D A Q sc κ ra la lb oa Ad AA Hs hf 2685 (M + 1200) i (cells + 1) (slots + 6)) : zW p l e RML s m args below meth c 9 D A cells slots Q (LAWW κ ra la lb oa Ad AA Hs hf fo g f g1 g2 gp gh nx ct f1 f2 no ot eo v tx ip w σ aw h s2) [(0, .ref (sc)), (1, .ref (ra)), (2, .ref (Ad 0)), (3, .ref (oa)), (4, .int (nI i))] 1783 [] := by
  obtain ⟨hr, hv, ht0⟩ := id H.1
  obtain ⟨hnx, hct, h5, -⟩ := id H.2.1
  obtain ⟨q1, q2, h7, -, -⟩ := id H.2.2.1
  obtain ⟨v1, hw9, v2, ht⟩ := id H.2.2.2.1
  obtain ⟨hno, hn64⟩ := id H.2.2.2.2
  have n1 := hv.n1
  have n2 := hv.n2
  rcases hq1 : isB (σ 2) (xs (i + 1)) with _ | _
  · exact lc_33_no C hXc hls hX hb0 hA0 hhf hi6 hL hcr H hM1 hM K (xs (i + 1)) hq1 rfl
  · obtain ⟨b, hb, e1⟩ := isB_of (by omega) hq1
    exact lc_33_ok C hXc hls hX hb0 hA0 hhf hi6 hL hcr H hM1 hM K b hb e1
set_option maxRecDepth 100000 in
theorem lc_41 (C : zC p s m args c cL_law 9 wsL_law RL D (zTy κ) A) (hXc : aX adK adV A s s.heap) (hls : l.stackTraces = false) (hX : va_X sc L xs s s.heap) (hb0 : sc < s.heap.size) (hA0 : ¬ A sc) (hhf : ∀ j, j < 10 → hf j = some (Hs j 0)) (hi6 : i + 6 ≤ L) (hL : L ≤ 3072) (hcr : cells + 1 ≤ 601024 ∧ slots + 6 ≤ 7293034) (H : LI M g g1 g2 gh nx ct f1 f2 no v tx ip w σ h s2) (hM1 : 700000 ≤ M) (hM : M ≤ 1400000) (K : LGO p l e s m args below meth c D A Q sc κ ra la lb oa Ad AA Hs hf 2685 (M + 1200) i (cells + 1) (slots + 6)) : zW p l e RML s m args below meth c 9 D A cells slots Q (LAWW κ ra la lb oa Ad AA Hs hf fo g f g1 g2 gp gh nx ct f1 f2 no ot eo v tx ip w σ aw h s2) [(0, .ref (sc)), (1, .ref (ra)), (2, .ref (Ad 0)), (3, .ref (oa)), (4, .int (nI i))] 1988 [] := by
  obtain ⟨hr, hv, ht0⟩ := id H.1
  obtain ⟨hnx, hct, h5, -⟩ := id H.2.1
  obtain ⟨q1, q2, h7, -, -⟩ := id H.2.2.1
  obtain ⟨v1, hw9, v2, ht⟩ := id H.2.2.2.1
  obtain ⟨hno, hn64⟩ := id H.2.2.2.2
  have n1 := hv.n1
  have n2 := hv.n2
  rcases hq1 : inI (xs (i + 1)) (nI 1) (nI 99) with _ | _
  · exact lc_41_no C hXc hls hX hb0 hA0 hhf hi6 hL hcr H hM1 hM K (xs (i + 1)) hq1 rfl
  · obtain ⟨n, h1n, h2n, e1⟩ := inI_of (by decide) (by decide) hq1
    by_cases hc : σ 0 + n ≤ 9999
    · exact lc_41_ok C hXc hls hX hb0 hA0 hhf hi6 hL hcr H hM1 hM K n (by omega) (by omega) hc e1
    · exact lc_41_lim C hXc hls hX hb0 hA0 hhf hi6 hL hcr H hM1 hM K n (by omega) (by omega) (by omega) e1
set_option maxRecDepth 100000 in
theorem lc_42 (C : zC p s m args c cL_law 9 wsL_law RL D (zTy κ) A) (hXc : aX adK adV A s s.heap) (hls : l.stackTraces = false) (hX : va_X sc L xs s s.heap) (hb0 : sc < s.heap.size) (hA0 : ¬ A sc) (hhf : ∀ j, j < 10 → hf j = some (Hs j 0)) (hi6 : i + 6 ≤ L) (hL : L ≤ 3072) (hcr : cells + 1 ≤ 601024 ∧ slots + 6 ≤ 7293034) (H : LI M g g1 g2 gh nx ct f1 f2 no v tx ip w σ h s2) (hM1 : 700000 ≤ M) (hM : M ≤ 1400000) (K : LGO p l e s m args below meth c D A Q sc κ ra la lb oa Ad AA Hs hf 2685 (M + 1200) i (cells + 1) (slots + 6)) : zW p l e RML s m args below meth c 9 D A cells slots Q (LAWW κ ra la lb oa Ad AA Hs hf fo g f g1 g2 gp gh nx ct f1 f2 no ot eo v tx ip w σ aw h s2) [(0, .ref (sc)), (1, .ref (ra)), (2, .ref (Ad 0)), (3, .ref (oa)), (4, .int (nI i))] 2044 [] := by
  obtain ⟨hr, hv, ht0⟩ := id H.1
  obtain ⟨hnx, hct, h5, -⟩ := id H.2.1
  obtain ⟨q1, q2, h7, -, -⟩ := id H.2.2.1
  obtain ⟨v1, hw9, v2, ht⟩ := id H.2.2.2.1
  obtain ⟨hno, hn64⟩ := id H.2.2.2.2
  have n1 := hv.n1
  have n2 := hv.n2
  rcases hq1 : isB (σ 1) (xs (i + 1)) with _ | _
  · exact lc_42_no C hXc hls hX hb0 hA0 hhf hi6 hL hcr H hM1 hM K (xs (i + 1)) hq1 rfl
  · obtain ⟨b, hb, e1⟩ := isB_of (by omega) hq1
    by_cases hc : rsn σ b = 0
    · exact lc_42_ok C hXc hls hX hb0 hA0 hhf hi6 hL hcr H hM1 hM K b hb hc e1
    · exact lc_42_bad C hXc hls hX hb0 hA0 hhf hi6 hL hcr H hM1 hM K b hb hc e1
set_option maxRecDepth 100000 in
theorem lc_43 (C : zC p s m args c cL_law 9 wsL_law RL D (zTy κ) A) (hXc : aX adK adV A s s.heap) (hls : l.stackTraces = false) (hX : va_X sc L xs s s.heap) (hb0 : sc < s.heap.size) (hA0 : ¬ A sc) (hhf : ∀ j, j < 10 → hf j = some (Hs j 0)) (hi6 : i + 6 ≤ L) (hL : L ≤ 3072) (hcr : cells + 1 ≤ 601024 ∧ slots + 6 ≤ 7293034) (H : LI M g g1 g2 gh nx ct f1 f2 no v tx ip w σ h s2) (hM1 : 700000 ≤ M) (hM : M ≤ 1400000) (K : LGO p l e s m args below meth c D A Q sc κ ra la lb oa Ad AA Hs hf 2685 (M + 1200) i (cells + 1) (slots + 6)) : zW p l e RML s m args below meth c 9 D A cells slots Q (LAWW κ ra la lb oa Ad AA Hs hf fo g f g1 g2 gp gh nx ct f1 f2 no ot eo v tx ip w σ aw h s2) [(0, .ref (sc)), (1, .ref (ra)), (2, .ref (Ad 0)), (3, .ref (oa)), (4, .int (nI i))] 2100 [] := by
  obtain ⟨hr, hv, ht0⟩ := id H.1
  obtain ⟨hnx, hct, h5, -⟩ := id H.2.1
  obtain ⟨q1, q2, h7, -, -⟩ := id H.2.2.1
  obtain ⟨v1, hw9, v2, ht⟩ := id H.2.2.2.1
  obtain ⟨hno, hn64⟩ := id H.2.2.2.2
  have n1 := hv.n1
  have n2 := hv.n2
  rcases hq1 : isB (σ 1) (xs (i + 1)) with _ | _
  · exact lc_43_no C hXc hls hX hb0 hA0 hhf hi6 hL hcr H hM1 hM K (xs (i + 1)) hq1 rfl
  · obtain ⟨b, hb, e1⟩ := isB_of (by omega) hq1
    by_cases hc : 0 < σ (5 + 6 * b + 4)
    · exact lc_43_ok C hXc hls hX hb0 hA0 hhf hi6 hL hcr H hM1 hM K b hb hc e1
    · exact lc_43_bad C hXc hls hX hb0 hA0 hhf hi6 hL hcr H hM1 hM K b hb (by omega) e1
set_option maxRecDepth 100000 in
theorem lc_44 (C : zC p s m args c cL_law 9 wsL_law RL D (zTy κ) A) (hXc : aX adK adV A s s.heap) (hls : l.stackTraces = false) (hX : va_X sc L xs s s.heap) (hb0 : sc < s.heap.size) (hA0 : ¬ A sc) (hhf : ∀ j, j < 10 → hf j = some (Hs j 0)) (hi6 : i + 6 ≤ L) (hL : L ≤ 3072) (hcr : cells + 1 ≤ 601024 ∧ slots + 6 ≤ 7293034) (H : LI M g g1 g2 gh nx ct f1 f2 no v tx ip w σ h s2) (hM1 : 700000 ≤ M) (hM : M ≤ 1400000) (K : LGO p l e s m args below meth c D A Q sc κ ra la lb oa Ad AA Hs hf 2685 (M + 1200) i (cells + 1) (slots + 6)) : zW p l e RML s m args below meth c 9 D A cells slots Q (LAWW κ ra la lb oa Ad AA Hs hf fo g f g1 g2 gp gh nx ct f1 f2 no ot eo v tx ip w σ aw h s2) [(0, .ref (sc)), (1, .ref (ra)), (2, .ref (Ad 0)), (3, .ref (oa)), (4, .int (nI i))] 2156 [] := by
  obtain ⟨hr, hv, ht0⟩ := id H.1
  obtain ⟨hnx, hct, h5, -⟩ := id H.2.1
  obtain ⟨q1, q2, h7, -, -⟩ := id H.2.2.1
  obtain ⟨v1, hw9, v2, ht⟩ := id H.2.2.2.1
  obtain ⟨hno, hn64⟩ := id H.2.2.2.2
  have n1 := hv.n1
  have n2 := hv.n2
  rcases hq1 : isB (σ 1) (xs (i + 1)) with _ | _
  · exact lc_44_no C hXc hls hX hb0 hA0 hhf hi6 hL hcr H hM1 hM K (xs (i + 1)) hq1 rfl
  · obtain ⟨b, hb, e1⟩ := isB_of (by omega) hq1
    by_cases hc : trAt σ b = 0
    · exact lc_44_ok C hXc hls hX hb0 hA0 hhf hi6 hL hcr H hM1 hM K b hb hc e1
    · exact lc_44_bad C hXc hls hX hb0 hA0 hhf hi6 hL hcr H hM1 hM K b hb hc e1
set_option maxRecDepth 100000 in
theorem lc_45 (C : zC p s m args c cL_law 9 wsL_law RL D (zTy κ) A) (hXc : aX adK adV A s s.heap) (hls : l.stackTraces = false) (hX : va_X sc L xs s s.heap) (hb0 : sc < s.heap.size) (hA0 : ¬ A sc) (hhf : ∀ j, j < 10 → hf j = some (Hs j 0)) (hi6 : i + 6 ≤ L) (hL : L ≤ 3072) (hcr : cells + 1 ≤ 601024 ∧ slots + 6 ≤ 7293034) (H : LI M g g1 g2 gh nx ct f1 f2 no v tx ip w σ h s2) (hM1 : 700000 ≤ M) (hM : M ≤ 1400000) (K : LGO p l e s m args below meth c D A Q sc κ ra la lb oa Ad AA Hs hf 2685 (M + 1200) i (cells + 1) (slots + 6)) : zW p l e RML s m args below meth c 9 D A cells slots Q (LAWW κ ra la lb oa Ad AA Hs hf fo g f g1 g2 gp gh nx ct f1 f2 no ot eo v tx ip w σ aw h s2) [(0, .ref (sc)), (1, .ref (ra)), (2, .ref (Ad 0)), (3, .ref (oa)), (4, .int (nI i))] 2212 [] := by
  obtain ⟨hr, hv, ht0⟩ := id H.1
  obtain ⟨hnx, hct, h5, -⟩ := id H.2.1
  obtain ⟨q1, q2, h7, -, -⟩ := id H.2.2.1
  obtain ⟨v1, hw9, v2, ht⟩ := id H.2.2.2.1
  obtain ⟨hno, hn64⟩ := id H.2.2.2.2
  have n1 := hv.n1
  have n2 := hv.n2
  rcases hq1 : isB (σ 1) (xs (i + 1)) with _ | _
  · exact lc_45_no C hXc hls hX hb0 hA0 hhf hi6 hL hcr H hM1 hM K (xs (i + 1)) hq1 rfl
  · obtain ⟨b, hb, e1⟩ := isB_of (by omega) hq1
    exact lc_45_ok C hXc hls hX hb0 hA0 hhf hi6 hL hcr H hM1 hM K b hb e1
set_option maxRecDepth 100000 in
theorem lc_46 (C : zC p s m args c cL_law 9 wsL_law RL D (zTy κ) A) (hXc : aX adK adV A s s.heap) (hls : l.stackTraces = false) (hX : va_X sc L xs s s.heap) (hb0 : sc < s.heap.size) (hA0 : ¬ A sc) (hhf : ∀ j, j < 10 → hf j = some (Hs j 0)) (hi6 : i + 6 ≤ L) (hL : L ≤ 3072) (hcr : cells + 1 ≤ 601024 ∧ slots + 6 ≤ 7293034) (H : LI M g g1 g2 gh nx ct f1 f2 no v tx ip w σ h s2) (hM1 : 700000 ≤ M) (hM : M ≤ 1400000) (K : LGO p l e s m args below meth c D A Q sc κ ra la lb oa Ad AA Hs hf 2685 (M + 1200) i (cells + 1) (slots + 6)) : zW p l e RML s m args below meth c 9 D A cells slots Q (LAWW κ ra la lb oa Ad AA Hs hf fo g f g1 g2 gp gh nx ct f1 f2 no ot eo v tx ip w σ aw h s2) [(0, .ref (sc)), (1, .ref (ra)), (2, .ref (Ad 0)), (3, .ref (oa)), (4, .int (nI i))] 2268 [] := by
  obtain ⟨hr, hv, ht0⟩ := id H.1
  obtain ⟨hnx, hct, h5, -⟩ := id H.2.1
  obtain ⟨q1, q2, h7, -, -⟩ := id H.2.2.1
  obtain ⟨v1, hw9, v2, ht⟩ := id H.2.2.2.1
  obtain ⟨hno, hn64⟩ := id H.2.2.2.2
  have n1 := hv.n1
  have n2 := hv.n2
  rcases hq1 : isB (σ 2) (xs (i + 1)) with _ | _
  · exact lc_46_no C hXc hls hX hb0 hA0 hhf hi6 hL hcr H hM1 hM K (xs (i + 1)) (xs (i + 2)) hq1 rfl rfl
  · obtain ⟨b, hb, e1⟩ := isB_of (by omega) hq1
    rcases hq2 : inI (xs (i + 2)) (nI 1) (nI 11) with _ | _
    · exact lc_46_rng C hXc hls hX hb0 hA0 hhf hi6 hL hcr H hM1 hM K b (xs (i + 2)) hb hq2 e1 rfl
    · obtain ⟨n, h1n, h2n, e2⟩ := inI_of (by decide) (by decide) hq2
      by_cases hc : σ (65 + 5 * b + 0) + n ≤ 12
      · exact lc_46_ok C hXc hls hX hb0 hA0 hhf hi6 hL hcr H hM1 hM K b n hb (by omega) (by omega) hc e1 e2
      · exact lc_46_lim C hXc hls hX hb0 hA0 hhf hi6 hL hcr H hM1 hM K b n hb (by omega) (by omega) (by omega) e1 e2
set_option maxRecDepth 100000 in
theorem lc_47 (C : zC p s m args c cL_law 9 wsL_law RL D (zTy κ) A) (hXc : aX adK adV A s s.heap) (hls : l.stackTraces = false) (hX : va_X sc L xs s s.heap) (hb0 : sc < s.heap.size) (hA0 : ¬ A sc) (hhf : ∀ j, j < 10 → hf j = some (Hs j 0)) (hi6 : i + 6 ≤ L) (hL : L ≤ 3072) (hcr : cells + 1 ≤ 601024 ∧ slots + 6 ≤ 7293034) (H : LI M g g1 g2 gh nx ct f1 f2 no v tx ip w σ h s2) (hM1 : 700000 ≤ M) (hM : M ≤ 1400000) (K : LGO p l e s m args below meth c D A Q sc κ ra la lb oa Ad AA Hs hf 2685 (M + 1200) i (cells + 1) (slots + 6)) : zW p l e RML s m args below meth c 9 D A cells slots Q (LAWW κ ra la lb oa Ad AA Hs hf fo g f g1 g2 gp gh nx ct f1 f2 no ot eo v tx ip w σ aw h s2) [(0, .ref (sc)), (1, .ref (ra)), (2, .ref (Ad 0)), (3, .ref (oa)), (4, .int (nI i))] 2336 [] := by
  obtain ⟨hr, hv, ht0⟩ := id H.1
  obtain ⟨hnx, hct, h5, -⟩ := id H.2.1
  obtain ⟨q1, q2, h7, -, -⟩ := id H.2.2.1
  obtain ⟨v1, hw9, v2, ht⟩ := id H.2.2.2.1
  obtain ⟨hno, hn64⟩ := id H.2.2.2.2
  have n1 := hv.n1
  have n2 := hv.n2
  rcases hq1 : isB (σ 2) (xs (i + 1)) with _ | _
  · exact lc_47_no C hXc hls hX hb0 hA0 hhf hi6 hL hcr H hM1 hM K (xs (i + 1)) (xs (i + 2)) hq1 rfl rfl
  · obtain ⟨b, hb, e1⟩ := isB_of (by omega) hq1
    rcases hq2 : inI (xs (i + 2)) (nI 1) (nI 5) with _ | _
    · exact lc_47_rng C hXc hls hX hb0 hA0 hhf hi6 hL hcr H hM1 hM K b (xs (i + 2)) hb hq2 e1 rfl
    · obtain ⟨n, h1n, h2n, e2⟩ := inI_of (by decide) (by decide) hq2
      exact lc_47_ok C hXc hls hX hb0 hA0 hhf hi6 hL hcr H hM1 hM K b n hb (by omega) (by omega) e1 e2
set_option maxRecDepth 100000 in
theorem lc_48 (C : zC p s m args c cL_law 9 wsL_law RL D (zTy κ) A) (hXc : aX adK adV A s s.heap) (hls : l.stackTraces = false) (hX : va_X sc L xs s s.heap) (hb0 : sc < s.heap.size) (hA0 : ¬ A sc) (hhf : ∀ j, j < 10 → hf j = some (Hs j 0)) (hi6 : i + 6 ≤ L) (hL : L ≤ 3072) (hcr : cells + 1 ≤ 601024 ∧ slots + 6 ≤ 7293034) (H : LI M g g1 g2 gh nx ct f1 f2 no v tx ip w σ h s2) (hM1 : 700000 ≤ M) (hM : M ≤ 1400000) (K : LGO p l e s m args below meth c D A Q sc κ ra la lb oa Ad AA Hs hf 2685 (M + 1200) i (cells + 1) (slots + 6)) : zW p l e RML s m args below meth c 9 D A cells slots Q (LAWW κ ra la lb oa Ad AA Hs hf fo g f g1 g2 gp gh nx ct f1 f2 no ot eo v tx ip w σ aw h s2) [(0, .ref (sc)), (1, .ref (ra)), (2, .ref (Ad 0)), (3, .ref (oa)), (4, .int (nI i))] 2404 [] := by
  obtain ⟨hr, hv, ht0⟩ := id H.1
  obtain ⟨hnx, hct, h5, -⟩ := id H.2.1
  obtain ⟨q1, q2, h7, -, -⟩ := id H.2.2.1
  obtain ⟨v1, hw9, v2, ht⟩ := id H.2.2.2.1
  obtain ⟨hno, hn64⟩ := id H.2.2.2.2
  have n1 := hv.n1
  have n2 := hv.n2
  rcases hq1 : inI (xs (i + 1)) (nI 0) (nI 1) with _ | _
  · exact lc_48_no C hXc hls hX hb0 hA0 hhf hi6 hL hcr H hM1 hM K (xs (i + 1)) hq1 rfl
  · obtain ⟨n, h1n, h2n, e1⟩ := inI_of (by decide) (by decide) hq1
    rcases (show n = 0 ∨ n = 1 by omega) with rfl | rfl
    · by_cases hc : f1 = 1
      · exact lc_48_ok0 C hXc hls hX hb0 hA0 hhf hi6 hL hcr H hM1 hM K  (by omega) e1
      · exact lc_48_emp0 C hXc hls hX hb0 hA0 hhf hi6 hL hcr H hM1 hM K  (by omega) e1
    · by_cases hc : f2 = 1
      · exact lc_48_ok1 C hXc hls hX hb0 hA0 hhf hi6 hL hcr H hM1 hM K  (by omega) e1
      · exact lc_48_emp1 C hXc hls hX hb0 hA0 hhf hi6 hL hcr H hM1 hM K  (by omega) e1
set_option maxRecDepth 100000 in
theorem lc_49 (C : zC p s m args c cL_law 9 wsL_law RL D (zTy κ) A) (hXc : aX adK adV A s s.heap) (hls : l.stackTraces = false) (hX : va_X sc L xs s s.heap) (hb0 : sc < s.heap.size) (hA0 : ¬ A sc) (hhf : ∀ j, j < 10 → hf j = some (Hs j 0)) (hi6 : i + 6 ≤ L) (hL : L ≤ 3072) (hcr : cells + 1 ≤ 601024 ∧ slots + 6 ≤ 7293034) (H : LI M g g1 g2 gh nx ct f1 f2 no v tx ip w σ h s2) (hM1 : 700000 ≤ M) (hM : M ≤ 1400000) (K : LGO p l e s m args below meth c D A Q sc κ ra la lb oa Ad AA Hs hf 2685 (M + 1200) i (cells + 1) (slots + 6)) : zW p l e RML s m args below meth c 9 D A cells slots Q (LAWW κ ra la lb oa Ad AA Hs hf fo g f g1 g2 gp gh nx ct f1 f2 no ot eo v tx ip w σ aw h s2) [(0, .ref (sc)), (1, .ref (ra)), (2, .ref (Ad 0)), (3, .ref (oa)), (4, .int (nI i))] 2460 [] := by
  obtain ⟨hr, hv, ht0⟩ := id H.1
  obtain ⟨hnx, hct, h5, -⟩ := id H.2.1
  obtain ⟨q1, q2, h7, -, -⟩ := id H.2.2.1
  obtain ⟨v1, hw9, v2, ht⟩ := id H.2.2.2.1
  obtain ⟨hno, hn64⟩ := id H.2.2.2.2
  have n1 := hv.n1
  have n2 := hv.n2
  by_cases hc : 1 ≤ ct
  · exact lc_49_ok C hXc hls hX hb0 hA0 hhf hi6 hL hcr H hM1 hM K  hc
  · exact lc_49_no C hXc hls hX hb0 hA0 hhf hi6 hL hcr H hM1 hM K  (by omega)
set_option maxRecDepth 100000 in
theorem lc_50 (C : zC p s m args c cL_law 9 wsL_law RL D (zTy κ) A) (hXc : aX adK adV A s s.heap) (hls : l.stackTraces = false) (hX : va_X sc L xs s s.heap) (hb0 : sc < s.heap.size) (hA0 : ¬ A sc) (hhf : ∀ j, j < 10 → hf j = some (Hs j 0)) (hi6 : i + 6 ≤ L) (hL : L ≤ 3072) (hcr : cells + 1 ≤ 601024 ∧ slots + 6 ≤ 7293034) (H : LI M g g1 g2 gh nx ct f1 f2 no v tx ip w σ h s2) (hM1 : 700000 ≤ M) (hM : M ≤ 1400000) (K : LGO p l e s m args below meth c D A Q sc κ ra la lb oa Ad AA Hs hf 2685 (M + 1200) i (cells + 1) (slots + 6)) : zW p l e RML s m args below meth c 9 D A cells slots Q (LAWW κ ra la lb oa Ad AA Hs hf fo g f g1 g2 gp gh nx ct f1 f2 no ot eo v tx ip w σ aw h s2) [(0, .ref (sc)), (1, .ref (ra)), (2, .ref (Ad 0)), (3, .ref (oa)), (4, .int (nI i))] 2504 [] := by
  obtain ⟨hr, hv, ht0⟩ := id H.1
  obtain ⟨hnx, hct, h5, -⟩ := id H.2.1
  obtain ⟨q1, q2, h7, -, -⟩ := id H.2.2.1
  obtain ⟨v1, hw9, v2, ht⟩ := id H.2.2.2.1
  obtain ⟨hno, hn64⟩ := id H.2.2.2.2
  have n1 := hv.n1
  have n2 := hv.n2
  rcases hq1 : inI (xs (i + 1)) (nI 0) (nI 1) with _ | _
  · exact lc_50_no C hXc hls hX hb0 hA0 hhf hi6 hL hcr H hM1 hM K (xs (i + 1)) hq1 rfl
  · obtain ⟨n, h1n, h2n, e1⟩ := inI_of (by decide) (by decide) hq1
    rcases (show n = 0 ∨ n = 1 by omega) with rfl | rfl
    · exact lc_50_ok0 C hXc hls hX hb0 hA0 hhf hi6 hL hcr H hM1 hM K  e1
    · exact lc_50_ok1 C hXc hls hX hb0 hA0 hhf hi6 hL hcr H hM1 hM K  e1
set_option maxRecDepth 100000 in
theorem lc_52 (C : zC p s m args c cL_law 9 wsL_law RL D (zTy κ) A) (hXc : aX adK adV A s s.heap) (hls : l.stackTraces = false) (hX : va_X sc L xs s s.heap) (hb0 : sc < s.heap.size) (hA0 : ¬ A sc) (hhf : ∀ j, j < 10 → hf j = some (Hs j 0)) (hi6 : i + 6 ≤ L) (hL : L ≤ 3072) (hcr : cells + 1 ≤ 601024 ∧ slots + 6 ≤ 7293034) (H : LI M g g1 g2 gh nx ct f1 f2 no v tx ip w σ h s2) (hM1 : 700000 ≤ M) (hM : M ≤ 1400000) (K : LGO p l e s m args below meth c D A Q sc κ ra la lb oa Ad AA Hs hf 2685 (M + 1200) i (cells + 1) (slots + 6)) : zW p l e RML s m args below meth c 9 D A cells slots Q (LAWW κ ra la lb oa Ad AA Hs hf fo g f g1 g2 gp gh nx ct f1 f2 no ot eo v tx ip w σ aw h s2) [(0, .ref (sc)), (1, .ref (ra)), (2, .ref (Ad 0)), (3, .ref (oa)), (4, .int (nI i))] 2573 [] := by
  obtain ⟨hr, hv, ht0⟩ := id H.1
  obtain ⟨hnx, hct, h5, -⟩ := id H.2.1
  obtain ⟨q1, q2, h7, -, -⟩ := id H.2.2.1
  obtain ⟨v1, hw9, v2, ht⟩ := id H.2.2.2.1
  obtain ⟨hno, hn64⟩ := id H.2.2.2.2
  have n1 := hv.n1
  have n2 := hv.n2
  rcases hq1 : isB (σ 2) (xs (i + 1)) with _ | _
  · exact lc_52_no C hXc hls hX hb0 hA0 hhf hi6 hL hcr H hM1 hM K (xs (i + 1)) hq1 rfl
  · obtain ⟨b, hb, e1⟩ := isB_of (by omega) hq1
    exact lc_52_ok C hXc hls hX hb0 hA0 hhf hi6 hL hcr H hM1 hM K b hb e1
set_option maxRecDepth 100000 in
theorem lc_53 (C : zC p s m args c cL_law 9 wsL_law RL D (zTy κ) A) (hXc : aX adK adV A s s.heap) (hls : l.stackTraces = false) (hX : va_X sc L xs s s.heap) (hb0 : sc < s.heap.size) (hA0 : ¬ A sc) (hhf : ∀ j, j < 10 → hf j = some (Hs j 0)) (hi6 : i + 6 ≤ L) (hL : L ≤ 3072) (hcr : cells + 1 ≤ 601024 ∧ slots + 6 ≤ 7293034) (H : LI M g g1 g2 gh nx ct f1 f2 no v tx ip w σ h s2) (hM1 : 700000 ≤ M) (hM : M ≤ 1400000) (K : LGO p l e s m args below meth c D A Q sc κ ra la lb oa Ad AA Hs hf 2685 (M + 1200) i (cells + 1) (slots + 6)) : zW p l e RML s m args below meth c 9 D A cells slots Q (LAWW κ ra la lb oa Ad AA Hs hf fo g f g1 g2 gp gh nx ct f1 f2 no ot eo v tx ip w σ aw h s2) [(0, .ref (sc)), (1, .ref (ra)), (2, .ref (Ad 0)), (3, .ref (oa)), (4, .int (nI i))] 2629 [] := by
  obtain ⟨hr, hv, ht0⟩ := id H.1
  obtain ⟨hnx, hct, h5, -⟩ := id H.2.1
  obtain ⟨q1, q2, h7, -, -⟩ := id H.2.2.1
  obtain ⟨v1, hw9, v2, ht⟩ := id H.2.2.2.1
  obtain ⟨hno, hn64⟩ := id H.2.2.2.2
  have n1 := hv.n1
  have n2 := hv.n2
  rcases hq1 : isB (no) (xs (i + 1)) with _ | _
  · exact lc_53_no C hXc hls hX hb0 hA0 hhf hi6 hL hcr H hM1 hM K (xs (i + 1)) hq1 rfl
  · obtain ⟨k, hk, e1⟩ := isB_of (by omega) hq1
    exact lc_53_ok C hXc hls hX hb0 hA0 hhf hi6 hL hcr H hM1 hM K k hk e1
theorem lcj_0 (C : zC p s m args c cL_law 9 wsL_law RL D (zTy κ) A) (hXc : aX adK adV A s s.heap) (hls : l.stackTraces = false) (hX : va_X sc L xs s s.heap) (hb0 : sc < s.heap.size) (hA0 : ¬ A sc) (hhf : ∀ j, j < 10 → hf j = some (Hs j 0)) (hi6 : i + 6 ≤ L) (hL : L ≤ 3072) (hcr : cells + 1 ≤ 601024 ∧ slots + 6 ≤ 7293034) (H : LI M g g1 g2 gh nx ct f1 f2 no v tx ip w σ h s2) (hM1 : 700000 ≤ M) (hM : M ≤ 1400000) (K : LGO p l e s m args below meth c D A Q sc κ ra la lb oa Ad AA Hs hf 2685 (M + 1200) i (cells + 1) (slots + 6)) : zW p l e RML s m args below meth c 9 D A cells slots Q (LAWW κ ra la lb oa Ad AA Hs hf fo g f g1 g2 gp gh nx ct f1 f2 no ot eo v tx ip w σ aw h s2) [(0, .ref (sc)), (1, .ref (ra)), (2, .ref (Ad 0)), (3, .ref (oa)), (4, .int (nI i))] 40 [.int (nI 0)] := z_tableIn (off := 232) (tgt := 272) C dL_law_40 (by decide) (by decide) (by decide +kernel) (by decide) (lc_0 C hXc hls hX hb0 hA0 hhf hi6 hL hcr H hM1 hM K)
theorem lcj_1 (C : zC p s m args c cL_law 9 wsL_law RL D (zTy κ) A) (hXc : aX adK adV A s s.heap) (hls : l.stackTraces = false) (hX : va_X sc L xs s s.heap) (hb0 : sc < s.heap.size) (hA0 : ¬ A sc) (hhf : ∀ j, j < 10 → hf j = some (Hs j 0)) (hi6 : i + 6 ≤ L) (hL : L ≤ 3072) (hcr : cells + 1 ≤ 601024 ∧ slots + 6 ≤ 7293034) (H : LI M g g1 g2 gh nx ct f1 f2 no v tx ip w σ h s2) (hM1 : 700000 ≤ M) (hM : M ≤ 1400000) (K : LGO p l e s m args below meth c D A Q sc κ ra la lb oa Ad AA Hs hf 2685 (M + 1200) i (cells + 1) (slots + 6)) : zW p l e RML s m args below meth c 9 D A cells slots Q (LAWW κ ra la lb oa Ad AA Hs hf fo g f g1 g2 gp gh nx ct f1 f2 no ot eo v tx ip w σ aw h s2) [(0, .ref (sc)), (1, .ref (ra)), (2, .ref (Ad 0)), (3, .ref (oa)), (4, .int (nI i))] 40 [.int (nI 1)] := z_tableIn (off := 336) (tgt := 376) C dL_law_40 (by decide) (by decide) (by decide +kernel) (by decide) (lc_1 C hXc hls hX hb0 hA0 hhf hi6 hL hcr H hM1 hM K)
theorem lcj_2 (C : zC p s m args c cL_law 9 wsL_law RL D (zTy κ) A) (hXc : aX adK adV A s s.heap) (hls : l.stackTraces = false) (hX : va_X sc L xs s s.heap) (hb0 : sc < s.heap.size) (hA0 : ¬ A sc) (hhf : ∀ j, j < 10 → hf j = some (Hs j 0)) (hi6 : i + 6 ≤ L) (hL : L ≤ 3072) (hcr : cells + 1 ≤ 601024 ∧ slots + 6 ≤ 7293034) (H : LI M g g1 g2 gh nx ct f1 f2 no v tx ip w σ h s2) (hM1 : 700000 ≤ M) (hM : M ≤ 1400000) (K : LGO p l e s m args below meth c D A Q sc κ ra la lb oa Ad AA Hs hf 2685 (M + 1200) i (cells + 1) (slots + 6)) : zW p l e RML s m args below meth c 9 D A cells slots Q (LAWW κ ra la lb oa Ad AA Hs hf fo g f g1 g2 gp gh nx ct f1 f2 no ot eo v tx ip w σ aw h s2) [(0, .ref (sc)), (1, .ref (ra)), (2, .ref (Ad 0)), (3, .ref (oa)), (4, .int (nI i))] 40 [.int (nI 2)] := z_tableIn (off := 392) (tgt := 432) C dL_law_40 (by decide) (by decide) (by decide +kernel) (by decide) (lc_2 C hXc hls hX hb0 hA0 hhf hi6 hL hcr H hM1 hM K)
theorem lcj_3 (C : zC p s m args c cL_law 9 wsL_law RL D (zTy κ) A) (hXc : aX adK adV A s s.heap) (hls : l.stackTraces = false) (hX : va_X sc L xs s s.heap) (hb0 : sc < s.heap.size) (hA0 : ¬ A sc) (hhf : ∀ j, j < 10 → hf j = some (Hs j 0)) (hi6 : i + 6 ≤ L) (hL : L ≤ 3072) (hcr : cells + 1 ≤ 601024 ∧ slots + 6 ≤ 7293034) (H : LI M g g1 g2 gh nx ct f1 f2 no v tx ip w σ h s2) (hM1 : 700000 ≤ M) (hM : M ≤ 1400000) (K : LGO p l e s m args below meth c D A Q sc κ ra la lb oa Ad AA Hs hf 2685 (M + 1200) i (cells + 1) (slots + 6)) : zW p l e RML s m args below meth c 9 D A cells slots Q (LAWW κ ra la lb oa Ad AA Hs hf fo g f g1 g2 gp gh nx ct f1 f2 no ot eo v tx ip w σ aw h s2) [(0, .ref (sc)), (1, .ref (ra)), (2, .ref (Ad 0)), (3, .ref (oa)), (4, .int (nI i))] 40 [.int (nI 3)] := z_tableIn (off := 405) (tgt := 445) C dL_law_40 (by decide) (by decide) (by decide +kernel) (by decide) (lc_3 C hXc hls hX hb0 hA0 hhf hi6 hL hcr H hM1 hM K)
theorem lcj_4 (C : zC p s m args c cL_law 9 wsL_law RL D (zTy κ) A) (hXc : aX adK adV A s s.heap) (hls : l.stackTraces = false) (hX : va_X sc L xs s s.heap) (hb0 : sc < s.heap.size) (hA0 : ¬ A sc) (hhf : ∀ j, j < 10 → hf j = some (Hs j 0)) (hi6 : i + 6 ≤ L) (hL : L ≤ 3072) (hcr : cells + 1 ≤ 601024 ∧ slots + 6 ≤ 7293034) (H : LI M g g1 g2 gh nx ct f1 f2 no v tx ip w σ h s2) (hM1 : 700000 ≤ M) (hM : M ≤ 1400000) (K : LGO p l e s m args below meth c D A Q sc κ ra la lb oa Ad AA Hs hf 2685 (M + 1200) i (cells + 1) (slots + 6)) : zW p l e RML s m args below meth c 9 D A cells slots Q (LAWW κ ra la lb oa Ad AA Hs hf fo g f g1 g2 gp gh nx ct f1 f2 no ot eo v tx ip w σ aw h s2) [(0, .ref (sc)), (1, .ref (ra)), (2, .ref (Ad 0)), (3, .ref (oa)), (4, .int (nI i))] 40 [.int (nI 4)] := z_tableIn (off := 418) (tgt := 458) C dL_law_40 (by decide) (by decide) (by decide +kernel) (by decide) (lc_4 C hXc hls hX hb0 hA0 hhf hi6 hL hcr H hM1 hM K)
theorem lcj_5 (C : zC p s m args c cL_law 9 wsL_law RL D (zTy κ) A) (hXc : aX adK adV A s s.heap) (hls : l.stackTraces = false) (hX : va_X sc L xs s s.heap) (hb0 : sc < s.heap.size) (hA0 : ¬ A sc) (hhf : ∀ j, j < 10 → hf j = some (Hs j 0)) (hi6 : i + 6 ≤ L) (hL : L ≤ 3072) (hcr : cells + 1 ≤ 601024 ∧ slots + 6 ≤ 7293034) (H : LI M g g1 g2 gh nx ct f1 f2 no v tx ip w σ h s2) (hM1 : 700000 ≤ M) (hM : M ≤ 1400000) (K : LGO p l e s m args below meth c D A Q sc κ ra la lb oa Ad AA Hs hf 2685 (M + 1200) i (cells + 1) (slots + 6)) : zW p l e RML s m args below meth c 9 D A cells slots Q (LAWW κ ra la lb oa Ad AA Hs hf fo g f g1 g2 gp gh nx ct f1 f2 no ot eo v tx ip w σ aw h s2) [(0, .ref (sc)), (1, .ref (ra)), (2, .ref (Ad 0)), (3, .ref (oa)), (4, .int (nI i))] 40 [.int (nI 5)] := z_tableIn (off := 431) (tgt := 471) C dL_law_40 (by decide) (by decide) (by decide +kernel) (by decide) (lc_5 C hXc hls hX hb0 hA0 hhf hi6 hL hcr H hM1 hM K)
theorem lcj_6 (C : zC p s m args c cL_law 9 wsL_law RL D (zTy κ) A) (hXc : aX adK adV A s s.heap) (hls : l.stackTraces = false) (hX : va_X sc L xs s s.heap) (hb0 : sc < s.heap.size) (hA0 : ¬ A sc) (hhf : ∀ j, j < 10 → hf j = some (Hs j 0)) (hi6 : i + 6 ≤ L) (hL : L ≤ 3072) (hcr : cells + 1 ≤ 601024 ∧ slots + 6 ≤ 7293034) (H : LI M g g1 g2 gh nx ct f1 f2 no v tx ip w σ h s2) (hM1 : 700000 ≤ M) (hM : M ≤ 1400000) (K : LGO p l e s m args below meth c D A Q sc κ ra la lb oa Ad AA Hs hf 2685 (M + 1200) i (cells + 1) (slots + 6)) : zW p l e RML s m args below meth c 9 D A cells slots Q (LAWW κ ra la lb oa Ad AA Hs hf fo g f g1 g2 gp gh nx ct f1 f2 no ot eo v tx ip w σ aw h s2) [(0, .ref (sc)), (1, .ref (ra)), (2, .ref (Ad 0)), (3, .ref (oa)), (4, .int (nI i))] 40 [.int (nI 6)] := z_tableIn (off := 444) (tgt := 484) C dL_law_40 (by decide) (by decide) (by decide +kernel) (by decide) (lc_6 C hXc hls hX hb0 hA0 hhf hi6 hL hcr H hM1 hM K)
theorem lcj_7 (C : zC p s m args c cL_law 9 wsL_law RL D (zTy κ) A) (hXc : aX adK adV A s s.heap) (hls : l.stackTraces = false) (hX : va_X sc L xs s s.heap) (hb0 : sc < s.heap.size) (hA0 : ¬ A sc) (hhf : ∀ j, j < 10 → hf j = some (Hs j 0)) (hi6 : i + 6 ≤ L) (hL : L ≤ 3072) (hcr : cells + 1 ≤ 601024 ∧ slots + 6 ≤ 7293034) (H : LI M g g1 g2 gh nx ct f1 f2 no v tx ip w σ h s2) (hM1 : 700000 ≤ M) (hM : M ≤ 1400000) (K : LGO p l e s m args below meth c D A Q sc κ ra la lb oa Ad AA Hs hf 2685 (M + 1200) i (cells + 1) (slots + 6)) : zW p l e RML s m args below meth c 9 D A cells slots Q (LAWW κ ra la lb oa Ad AA Hs hf fo g f g1 g2 gp gh nx ct f1 f2 no ot eo v tx ip w σ aw h s2) [(0, .ref (sc)), (1, .ref (ra)), (2, .ref (Ad 0)), (3, .ref (oa)), (4, .int (nI i))] 40 [.int (nI 7)] := z_tableIn (off := 500) (tgt := 540) C dL_law_40 (by decide) (by decide) (by decide +kernel) (by decide) (lc_7 C hXc hls hX hb0 hA0 hhf hi6 hL hcr H hM1 hM K)
theorem lcj_8 (C : zC p s m args c cL_law 9 wsL_law RL D (zTy κ) A) (hXc : aX adK adV A s s.heap) (hls : l.stackTraces = false) (hX : va_X sc L xs s s.heap) (hb0 : sc < s.heap.size) (hA0 : ¬ A sc) (hhf : ∀ j, j < 10 → hf j = some (Hs j 0)) (hi6 : i + 6 ≤ L) (hL : L ≤ 3072) (hcr : cells + 1 ≤ 601024 ∧ slots + 6 ≤ 7293034) (H : LI M g g1 g2 gh nx ct f1 f2 no v tx ip w σ h s2) (hM1 : 700000 ≤ M) (hM : M ≤ 1400000) (K : LGO p l e s m args below meth c D A Q sc κ ra la lb oa Ad AA Hs hf 2685 (M + 1200) i (cells + 1) (slots + 6)) : zW p l e RML s m args below meth c 9 D A cells slots Q (LAWW κ ra la lb oa Ad AA Hs hf fo g f g1 g2 gp gh nx ct f1 f2 no ot eo v tx ip w σ aw h s2) [(0, .ref (sc)), (1, .ref (ra)), (2, .ref (Ad 0)), (3, .ref (oa)), (4, .int (nI i))] 40 [.int (nI 8)] := z_tableIn (off := 556) (tgt := 596) C dL_law_40 (by decide) (by decide) (by decide +kernel) (by decide) (lc_8 C hXc hls hX hb0 hA0 hhf hi6 hL hcr H hM1 hM K)
theorem lcj_9 (C : zC p s m args c cL_law 9 wsL_law RL D (zTy κ) A) (hXc : aX adK adV A s s.heap) (hls : l.stackTraces = false) (hX : va_X sc L xs s s.heap) (hb0 : sc < s.heap.size) (hA0 : ¬ A sc) (hhf : ∀ j, j < 10 → hf j = some (Hs j 0)) (hi6 : i + 6 ≤ L) (hL : L ≤ 3072) (hcr : cells + 1 ≤ 601024 ∧ slots + 6 ≤ 7293034) (H : LI M g g1 g2 gh nx ct f1 f2 no v tx ip w σ h s2) (hM1 : 700000 ≤ M) (hM : M ≤ 1400000) (K : LGO p l e s m args below meth c D A Q sc κ ra la lb oa Ad AA Hs hf 2685 (M + 1200) i (cells + 1) (slots + 6)) : zW p l e RML s m args below meth c 9 D A cells slots Q (LAWW κ ra la lb oa Ad AA Hs hf fo g f g1 g2 gp gh nx ct f1 f2 no ot eo v tx ip w σ aw h s2) [(0, .ref (sc)), (1, .ref (ra)), (2, .ref (Ad 0)), (3, .ref (oa)), (4, .int (nI i))] 40 [.int (nI 9)] := z_tableIn (off := 619) (tgt := 659) C dL_law_40 (by decide) (by decide) (by decide +kernel) (by decide) (lc_9 C hXc hls hX hb0 hA0 hhf hi6 hL hcr H hM1 hM K)
theorem lcj_10 (C : zC p s m args c cL_law 9 wsL_law RL D (zTy κ) A) (hXc : aX adK adV A s s.heap) (hls : l.stackTraces = false) (hX : va_X sc L xs s s.heap) (hb0 : sc < s.heap.size) (hA0 : ¬ A sc) (hhf : ∀ j, j < 10 → hf j = some (Hs j 0)) (hi6 : i + 6 ≤ L) (hL : L ≤ 3072) (hcr : cells + 1 ≤ 601024 ∧ slots + 6 ≤ 7293034) (H : LI M g g1 g2 gh nx ct f1 f2 no v tx ip w σ h s2) (hM1 : 700000 ≤ M) (hM : M ≤ 1400000) (K : LGO p l e s m args below meth c D A Q sc κ ra la lb oa Ad AA Hs hf 2685 (M + 1200) i (cells + 1) (slots + 6)) : zW p l e RML s m args below meth c 9 D A cells slots Q (LAWW κ ra la lb oa Ad AA Hs hf fo g f g1 g2 gp gh nx ct f1 f2 no ot eo v tx ip w σ aw h s2) [(0, .ref (sc)), (1, .ref (ra)), (2, .ref (Ad 0)), (3, .ref (oa)), (4, .int (nI i))] 40 [.int (nI 10)] := z_tableIn (off := 675) (tgt := 715) C dL_law_40 (by decide) (by decide) (by decide +kernel) (by decide) (lc_10 C hXc hls hX hb0 hA0 hhf hi6 hL hcr H hM1 hM K)
theorem lcj_11 (C : zC p s m args c cL_law 9 wsL_law RL D (zTy κ) A) (hXc : aX adK adV A s s.heap) (hls : l.stackTraces = false) (hX : va_X sc L xs s s.heap) (hb0 : sc < s.heap.size) (hA0 : ¬ A sc) (hhf : ∀ j, j < 10 → hf j = some (Hs j 0)) (hi6 : i + 6 ≤ L) (hL : L ≤ 3072) (hcr : cells + 1 ≤ 601024 ∧ slots + 6 ≤ 7293034) (H : LI M g g1 g2 gh nx ct f1 f2 no v tx ip w σ h s2) (hM1 : 700000 ≤ M) (hM : M ≤ 1400000) (K : LGO p l e s m args below meth c D A Q sc κ ra la lb oa Ad AA Hs hf 2685 (M + 1200) i (cells + 1) (slots + 6)) : zW p l e RML s m args below meth c 9 D A cells slots Q (LAWW κ ra la lb oa Ad AA Hs hf fo g f g1 g2 gp gh nx ct f1 f2 no ot eo v tx ip w σ aw h s2) [(0, .ref (sc)), (1, .ref (ra)), (2, .ref (Ad 0)), (3, .ref (oa)), (4, .int (nI i))] 40 [.int (nI 11)] := z_tableIn (off := 738) (tgt := 778) C dL_law_40 (by decide) (by decide) (by decide +kernel) (by decide) (lc_11 C hXc hls hX hb0 hA0 hhf hi6 hL hcr H hM1 hM K)
theorem lcj_12 (C : zC p s m args c cL_law 9 wsL_law RL D (zTy κ) A) (hXc : aX adK adV A s s.heap) (hls : l.stackTraces = false) (hX : va_X sc L xs s s.heap) (hb0 : sc < s.heap.size) (hA0 : ¬ A sc) (hhf : ∀ j, j < 10 → hf j = some (Hs j 0)) (hi6 : i + 6 ≤ L) (hL : L ≤ 3072) (hcr : cells + 1 ≤ 601024 ∧ slots + 6 ≤ 7293034) (H : LI M g g1 g2 gh nx ct f1 f2 no v tx ip w σ h s2) (hM1 : 700000 ≤ M) (hM : M ≤ 1400000) (K : LGO p l e s m args below meth c D A Q sc κ ra la lb oa Ad AA Hs hf 2685 (M + 1200) i (cells + 1) (slots + 6)) : zW p l e RML s m args below meth c 9 D A cells slots Q (LAWW κ ra la lb oa Ad AA Hs hf fo g f g1 g2 gp gh nx ct f1 f2 no ot eo v tx ip w σ aw h s2) [(0, .ref (sc)), (1, .ref (ra)), (2, .ref (Ad 0)), (3, .ref (oa)), (4, .int (nI i))] 40 [.int (nI 12)] := z_tableIn (off := 794) (tgt := 834) C dL_law_40 (by decide) (by decide) (by decide +kernel) (by decide) (lc_12 C hXc hls hX hb0 hA0 hhf hi6 hL hcr H hM1 hM K)
theorem lcj_13 (C : zC p s m args c cL_law 9 wsL_law RL D (zTy κ) A) (hXc : aX adK adV A s s.heap) (hls : l.stackTraces = false) (hX : va_X sc L xs s s.heap) (hb0 : sc < s.heap.size) (hA0 : ¬ A sc) (hhf : ∀ j, j < 10 → hf j = some (Hs j 0)) (hi6 : i + 6 ≤ L) (hL : L ≤ 3072) (hcr : cells + 1 ≤ 601024 ∧ slots + 6 ≤ 7293034) (H : LI M g g1 g2 gh nx ct f1 f2 no v tx ip w σ h s2) (hM1 : 700000 ≤ M) (hM : M ≤ 1400000) (K : LGO p l e s m args below meth c D A Q sc κ ra la lb oa Ad AA Hs hf 2685 (M + 1200) i (cells + 1) (slots + 6)) : zW p l e RML s m args below meth c 9 D A cells slots Q (LAWW κ ra la lb oa Ad AA Hs hf fo g f g1 g2 gp gh nx ct f1 f2 no ot eo v tx ip w σ aw h s2) [(0, .ref (sc)), (1, .ref (ra)), (2, .ref (Ad 0)), (3, .ref (oa)), (4, .int (nI i))] 40 [.int (nI 13)] := z_tableIn (off := 850) (tgt := 890) C dL_law_40 (by decide) (by decide) (by decide +kernel) (by decide) (lc_13 C hXc hls hX hb0 hA0 hhf hi6 hL hcr H hM1 hM K)
theorem lcj_14 (C : zC p s m args c cL_law 9 wsL_law RL D (zTy κ) A) (hXc : aX adK adV A s s.heap) (hls : l.stackTraces = false) (hX : va_X sc L xs s s.heap) (hb0 : sc < s.heap.size) (hA0 : ¬ A sc) (hhf : ∀ j, j < 10 → hf j = some (Hs j 0)) (hi6 : i + 6 ≤ L) (hL : L ≤ 3072) (hcr : cells + 1 ≤ 601024 ∧ slots + 6 ≤ 7293034) (H : LI M g g1 g2 gh nx ct f1 f2 no v tx ip w σ h s2) (hM1 : 700000 ≤ M) (hM : M ≤ 1400000) (K : LGO p l e s m args below meth c D A Q sc κ ra la lb oa Ad AA Hs hf 2685 (M + 1200) i (cells + 1) (slots + 6)) : zW p l e RML s m args below meth c 9 D A cells slots Q (LAWW κ ra la lb oa Ad AA Hs hf fo g f g1 g2 gp gh nx ct f1 f2 no ot eo v tx ip w σ aw h s2) [(0, .ref (sc)), (1, .ref (ra)), (2, .ref (Ad 0)), (3, .ref (oa)), (4, .int (nI i))] 40 [.int (nI 14)] := z_tableIn (off := 906) (tgt := 946) C dL_law_40 (by decide) (by decide) (by decide +kernel) (by decide) (lc_14 C hXc hls hX hb0 hA0 hhf hi6 hL hcr H hM1 hM K)
theorem lcj_15 (C : zC p s m args c cL_law 9 wsL_law RL D (zTy κ) A) (hXc : aX adK adV A s s.heap) (hls : l.stackTraces = false) (hX : va_X sc L xs s s.heap) (hb0 : sc < s.heap.size) (hA0 : ¬ A sc) (hhf : ∀ j, j < 10 → hf j = some (Hs j 0)) (hi6 : i + 6 ≤ L) (hL : L ≤ 3072) (hcr : cells + 1 ≤ 601024 ∧ slots + 6 ≤ 7293034) (H : LI M g g1 g2 gh nx ct f1 f2 no v tx ip w σ h s2) (hM1 : 700000 ≤ M) (hM : M ≤ 1400000) (K : LGO p l e s m args below meth c D A Q sc κ ra la lb oa Ad AA Hs hf 2685 (M + 1200) i (cells + 1) (slots + 6)) : zW p l e RML s m args below meth c 9 D A cells slots Q (LAWW κ ra la lb oa Ad AA Hs hf fo g f g1 g2 gp gh nx ct f1 f2 no ot eo v tx ip w σ aw h s2) [(0, .ref (sc)), (1, .ref (ra)), (2, .ref (Ad 0)), (3, .ref (oa)), (4, .int (nI i))] 40 [.int (nI 15)] := z_tableIn (off := 962) (tgt := 1002) C dL_law_40 (by decide) (by decide) (by decide +kernel) (by decide) (lc_15 C hXc hls hX hb0 hA0 hhf hi6 hL hcr H hM1 hM K)
theorem lcj_16 (C : zC p s m args c cL_law 9 wsL_law RL D (zTy κ) A) (hXc : aX adK adV A s s.heap) (hls : l.stackTraces = false) (hX : va_X sc L xs s s.heap) (hb0 : sc < s.heap.size) (hA0 : ¬ A sc) (hhf : ∀ j, j < 10 → hf j = some (Hs j 0)) (hi6 : i + 6 ≤ L) (hL : L ≤ 3072) (hcr : cells + 1 ≤ 601024 ∧ slots + 6 ≤ 7293034) (H : LI M g g1 g2 gh nx ct f1 f2 no v tx ip w σ h s2) (hM1 : 700000 ≤ M) (hM : M ≤ 1400000) (K : LGO p l e s m args below meth c D A Q sc κ ra la lb oa Ad AA Hs hf 2685 (M + 1200) i (cells + 1) (slots + 6)) : zW p l e RML s m args below meth c 9 D A cells slots Q (LAWW κ ra la lb oa Ad AA Hs hf fo g f g1 g2 gp gh nx ct f1 f2 no ot eo v tx ip w σ aw h s2) [(0, .ref (sc)), (1, .ref (ra)), (2, .ref (Ad 0)), (3, .ref (oa)), (4, .int (nI i))] 40 [.int (nI 16)] := z_tableIn (off := 975) (tgt := 1015) C dL_law_40 (by decide) (by decide) (by decide +kernel) (by decide) (lc_16 C hXc hls hX hb0 hA0 hhf hi6 hL hcr H hM1 hM K)
theorem lcj_17 (C : zC p s m args c cL_law 9 wsL_law RL D (zTy κ) A) (hXc : aX adK adV A s s.heap) (hls : l.stackTraces = false) (hX : va_X sc L xs s s.heap) (hb0 : sc < s.heap.size) (hA0 : ¬ A sc) (hhf : ∀ j, j < 10 → hf j = some (Hs j 0)) (hi6 : i + 6 ≤ L) (hL : L ≤ 3072) (hcr : cells + 1 ≤ 601024 ∧ slots + 6 ≤ 7293034) (H : LI M g g1 g2 gh nx ct f1 f2 no v tx ip w σ h s2) (hM1 : 700000 ≤ M) (hM : M ≤ 1400000) (K : LGO p l e s m args below meth c D A Q sc κ ra la lb oa Ad AA Hs hf 2685 (M + 1200) i (cells + 1) (slots + 6)) : zW p l e RML s m args below meth c 9 D A cells slots Q (LAWW κ ra la lb oa Ad AA Hs hf fo g f g1 g2 gp gh nx ct f1 f2 no ot eo v tx ip w σ aw h s2) [(0, .ref (sc)), (1, .ref (ra)), (2, .ref (Ad 0)), (3, .ref (oa)), (4, .int (nI i))] 40 [.int (nI 17)] := z_tableIn (off := 988) (tgt := 1028) C dL_law_40 (by decide) (by decide) (by decide +kernel) (by decide) (lc_17 C hXc hls hX hb0 hA0 hhf hi6 hL hcr H hM1 hM K)
theorem lcj_18 (C : zC p s m args c cL_law 9 wsL_law RL D (zTy κ) A) (hXc : aX adK adV A s s.heap) (hls : l.stackTraces = false) (hX : va_X sc L xs s s.heap) (hb0 : sc < s.heap.size) (hA0 : ¬ A sc) (hhf : ∀ j, j < 10 → hf j = some (Hs j 0)) (hi6 : i + 6 ≤ L) (hL : L ≤ 3072) (hcr : cells + 1 ≤ 601024 ∧ slots + 6 ≤ 7293034) (H : LI M g g1 g2 gh nx ct f1 f2 no v tx ip w σ h s2) (hM1 : 700000 ≤ M) (hM : M ≤ 1400000) (K : LGO p l e s m args below meth c D A Q sc κ ra la lb oa Ad AA Hs hf 2685 (M + 1200) i (cells + 1) (slots + 6)) : zW p l e RML s m args below meth c 9 D A cells slots Q (LAWW κ ra la lb oa Ad AA Hs hf fo g f g1 g2 gp gh nx ct f1 f2 no ot eo v tx ip w σ aw h s2) [(0, .ref (sc)), (1, .ref (ra)), (2, .ref (Ad 0)), (3, .ref (oa)), (4, .int (nI i))] 40 [.int (nI 18)] := z_tableIn (off := 1001) (tgt := 1041) C dL_law_40 (by decide) (by decide) (by decide +kernel) (by decide) (lc_18 C hXc hls hX hb0 hA0 hhf hi6 hL hcr H hM1 hM K)
theorem lcj_19 (C : zC p s m args c cL_law 9 wsL_law RL D (zTy κ) A) (hXc : aX adK adV A s s.heap) (hls : l.stackTraces = false) (hX : va_X sc L xs s s.heap) (hb0 : sc < s.heap.size) (hA0 : ¬ A sc) (hhf : ∀ j, j < 10 → hf j = some (Hs j 0)) (hi6 : i + 6 ≤ L) (hL : L ≤ 3072) (hcr : cells + 1 ≤ 601024 ∧ slots + 6 ≤ 7293034) (H : LI M g g1 g2 gh nx ct f1 f2 no v tx ip w σ h s2) (hM1 : 700000 ≤ M) (hM : M ≤ 1400000) (K : LGO p l e s m args below meth c D A Q sc κ ra la lb oa Ad AA Hs hf 2685 (M + 1200) i (cells + 1) (slots + 6)) : zW p l e RML s m args below meth c 9 D A cells slots Q (LAWW κ ra la lb oa Ad AA Hs hf fo g f g1 g2 gp gh nx ct f1 f2 no ot eo v tx ip w σ aw h s2) [(0, .ref (sc)), (1, .ref (ra)), (2, .ref (Ad 0)), (3, .ref (oa)), (4, .int (nI i))] 40 [.int (nI 19)] := z_tableIn (off := 1014) (tgt := 1054) C dL_law_40 (by decide) (by decide) (by decide +kernel) (by decide) (lc_19 C hXc hls hX hb0 hA0 hhf hi6 hL hcr H hM1 hM K)
theorem lcj_20 (C : zC p s m args c cL_law 9 wsL_law RL D (zTy κ) A) (hXc : aX adK adV A s s.heap) (hls : l.stackTraces = false) (hX : va_X sc L xs s s.heap) (hb0 : sc < s.heap.size) (hA0 : ¬ A sc) (hhf : ∀ j, j < 10 → hf j = some (Hs j 0)) (hi6 : i + 6 ≤ L) (hL : L ≤ 3072) (hcr : cells + 1 ≤ 601024 ∧ slots + 6 ≤ 7293034) (H : LI M g g1 g2 gh nx ct f1 f2 no v tx ip w σ h s2) (hM1 : 700000 ≤ M) (hM : M ≤ 1400000) (K : LGO p l e s m args below meth c D A Q sc κ ra la lb oa Ad AA Hs hf 2685 (M + 1200) i (cells + 1) (slots + 6)) : zW p l e RML s m args below meth c 9 D A cells slots Q (LAWW κ ra la lb oa Ad AA Hs hf fo g f g1 g2 gp gh nx ct f1 f2 no ot eo v tx ip w σ aw h s2) [(0, .ref (sc)), (1, .ref (ra)), (2, .ref (Ad 0)), (3, .ref (oa)), (4, .int (nI i))] 40 [.int (nI 20)] := z_tableIn (off := 1027) (tgt := 1067) C dL_law_40 (by decide) (by decide) (by decide +kernel) (by decide) (lc_20 C hXc hls hX hb0 hA0 hhf hi6 hL hcr H hM1 hM K)
theorem lcj_21 (C : zC p s m args c cL_law 9 wsL_law RL D (zTy κ) A) (hXc : aX adK adV A s s.heap) (hls : l.stackTraces = false) (hX : va_X sc L xs s s.heap) (hb0 : sc < s.heap.size) (hA0 : ¬ A sc) (hhf : ∀ j, j < 10 → hf j = some (Hs j 0)) (hi6 : i + 6 ≤ L) (hL : L ≤ 3072) (hcr : cells + 1 ≤ 601024 ∧ slots + 6 ≤ 7293034) (H : LI M g g1 g2 gh nx ct f1 f2 no v tx ip w σ h s2) (hM1 : 700000 ≤ M) (hM : M ≤ 1400000) (K : LGO p l e s m args below meth c D A Q sc κ ra la lb oa Ad AA Hs hf 2685 (M + 1200) i (cells + 1) (slots + 6)) : zW p l e RML s m args below meth c 9 D A cells slots Q (LAWW κ ra la lb oa Ad AA Hs hf fo g f g1 g2 gp gh nx ct f1 f2 no ot eo v tx ip w σ aw h s2) [(0, .ref (sc)), (1, .ref (ra)), (2, .ref (Ad 0)), (3, .ref (oa)), (4, .int (nI i))] 40 [.int (nI 21)] := z_tableIn (off := 1083) (tgt := 1123) C dL_law_40 (by decide) (by decide) (by decide +kernel) (by decide) (lc_21 C hXc hls hX hb0 hA0 hhf hi6 hL hcr H hM1 hM K)
theorem lcj_22 (C : zC p s m args c cL_law 9 wsL_law RL D (zTy κ) A) (hXc : aX adK adV A s s.heap) (hls : l.stackTraces = false) (hX : va_X sc L xs s s.heap) (hb0 : sc < s.heap.size) (hA0 : ¬ A sc) (hhf : ∀ j, j < 10 → hf j = some (Hs j 0)) (hi6 : i + 6 ≤ L) (hL : L ≤ 3072) (hcr : cells + 1 ≤ 601024 ∧ slots + 6 ≤ 7293034) (H : LI M g g1 g2 gh nx ct f1 f2 no v tx ip w σ h s2) (hM1 : 700000 ≤ M) (hM : M ≤ 1400000) (K : LGO p l e s m args below meth c D A Q sc κ ra la lb oa Ad AA Hs hf 2685 (M + 1200) i (cells + 1) (slots + 6)) : zW p l e RML s m args below meth c 9 D A cells slots Q (LAWW κ ra la lb oa Ad AA Hs hf fo g f g1 g2 gp gh nx ct f1 f2 no ot eo v tx ip w σ aw h s2) [(0, .ref (sc)), (1, .ref (ra)), (2, .ref (Ad 0)), (3, .ref (oa)), (4, .int (nI i))] 40 [.int (nI 22)] := z_tableIn (off := 1139) (tgt := 1179) C dL_law_40 (by decide) (by decide) (by decide +kernel) (by decide) (lc_22 C hXc hls hX hb0 hA0 hhf hi6 hL hcr H hM1 hM K)
theorem lcj_23 (C : zC p s m args c cL_law 9 wsL_law RL D (zTy κ) A) (hXc : aX adK adV A s s.heap) (hls : l.stackTraces = false) (hX : va_X sc L xs s s.heap) (hb0 : sc < s.heap.size) (hA0 : ¬ A sc) (hhf : ∀ j, j < 10 → hf j = some (Hs j 0)) (hi6 : i + 6 ≤ L) (hL : L ≤ 3072) (hcr : cells + 1 ≤ 601024 ∧ slots + 6 ≤ 7293034) (H : LI M g g1 g2 gh nx ct f1 f2 no v tx ip w σ h s2) (hM1 : 700000 ≤ M) (hM : M ≤ 1400000) (K : LGO p l e s m args below meth c D A Q sc κ ra la lb oa Ad AA Hs hf 2685 (M + 1200) i (cells + 1) (slots + 6)) : zW p l e RML s m args below meth c 9 D A cells slots Q (LAWW κ ra la lb oa Ad AA Hs hf fo g f g1 g2 gp gh nx ct f1 f2 no ot eo v tx ip w σ aw h s2) [(0, .ref (sc)), (1, .ref (ra)), (2, .ref (Ad 0)), (3, .ref (oa)), (4, .int (nI i))] 40 [.int (nI 23)] := z_tableIn (off := 1195) (tgt := 1235) C dL_law_40 (by decide) (by decide) (by decide +kernel) (by decide) (lc_23 C hXc hls hX hb0 hA0 hhf hi6 hL hcr H hM1 hM K)
theorem lcj_24 (C : zC p s m args c cL_law 9 wsL_law RL D (zTy κ) A) (hXc : aX adK adV A s s.heap) (hls : l.stackTraces = false) (hX : va_X sc L xs s s.heap) (hb0 : sc < s.heap.size) (hA0 : ¬ A sc) (hhf : ∀ j, j < 10 → hf j = some (Hs j 0)) (hi6 : i + 6 ≤ L) (hL : L ≤ 3072) (hcr : cells + 1 ≤ 601024 ∧ slots + 6 ≤ 7293034) (H : LI M g g1 g2 gh nx ct f1 f2 no v tx ip w σ h s2) (hM1 : 700000 ≤ M) (hM : M ≤ 1400000) (K : LGO p l e s m args below meth c D A Q sc κ ra la lb oa Ad AA Hs hf 2685 (M + 1200) i (cells + 1) (slots + 6)) : zW p l e RML s m args below meth c 9 D A cells slots Q (LAWW κ ra la lb oa Ad AA Hs hf fo g f g1 g2 gp gh nx ct f1 f2 no ot eo v tx ip w σ aw h s2) [(0, .ref (sc)), (1, .ref (ra)), (2, .ref (Ad 0)), (3, .ref (oa)), (4, .int (nI i))] 40 [.int (nI 24)] := z_tableIn (off := 1251) (tgt := 1291) C dL_law_40 (by decide) (by decide) (by decide +kernel) (by decide) (lc_24 C hXc hls hX hb0 hA0 hhf hi6 hL hcr H hM1 hM K)
theorem lcj_25 (C : zC p s m args c cL_law 9 wsL_law RL D (zTy κ) A) (hXc : aX adK adV A s s.heap) (hls : l.stackTraces = false) (hX : va_X sc L xs s s.heap) (hb0 : sc < s.heap.size) (hA0 : ¬ A sc) (hhf : ∀ j, j < 10 → hf j = some (Hs j 0)) (hi6 : i + 6 ≤ L) (hL : L ≤ 3072) (hcr : cells + 1 ≤ 601024 ∧ slots + 6 ≤ 7293034) (H : LI M g g1 g2 gh nx ct f1 f2 no v tx ip w σ h s2) (hM1 : 700000 ≤ M) (hM : M ≤ 1400000) (K : LGO p l e s m args below meth c D A Q sc κ ra la lb oa Ad AA Hs hf 2685 (M + 1200) i (cells + 1) (slots + 6)) : zW p l e RML s m args below meth c 9 D A cells slots Q (LAWW κ ra la lb oa Ad AA Hs hf fo g f g1 g2 gp gh nx ct f1 f2 no ot eo v tx ip w σ aw h s2) [(0, .ref (sc)), (1, .ref (ra)), (2, .ref (Ad 0)), (3, .ref (oa)), (4, .int (nI i))] 40 [.int (nI 25)] := z_tableIn (off := 1307) (tgt := 1347) C dL_law_40 (by decide) (by decide) (by decide +kernel) (by decide) (lc_25 C hXc hls hX hb0 hA0 hhf hi6 hL hcr H hM1 hM K)
theorem lcj_26 (C : zC p s m args c cL_law 9 wsL_law RL D (zTy κ) A) (hXc : aX adK adV A s s.heap) (hls : l.stackTraces = false) (hX : va_X sc L xs s s.heap) (hb0 : sc < s.heap.size) (hA0 : ¬ A sc) (hhf : ∀ j, j < 10 → hf j = some (Hs j 0)) (hi6 : i + 6 ≤ L) (hL : L ≤ 3072) (hcr : cells + 1 ≤ 601024 ∧ slots + 6 ≤ 7293034) (H : LI M g g1 g2 gh nx ct f1 f2 no v tx ip w σ h s2) (hM1 : 700000 ≤ M) (hM : M ≤ 1400000) (K : LGO p l e s m args below meth c D A Q sc κ ra la lb oa Ad AA Hs hf 2685 (M + 1200) i (cells + 1) (slots + 6)) : zW p l e RML s m args below meth c 9 D A cells slots Q (LAWW κ ra la lb oa Ad AA Hs hf fo g f g1 g2 gp gh nx ct f1 f2 no ot eo v tx ip w σ aw h s2) [(0, .ref (sc)), (1, .ref (ra)), (2, .ref (Ad 0)), (3, .ref (oa)), (4, .int (nI i))] 40 [.int (nI 26)] := z_tableIn (off := 1363) (tgt := 1403) C dL_law_40 (by decide) (by decide) (by decide +kernel) (by decide) (lc_26 C hXc hls hX hb0 hA0 hhf hi6 hL hcr H hM1 hM K)
theorem lcj_27 (C : zC p s m args c cL_law 9 wsL_law RL D (zTy κ) A) (hXc : aX adK adV A s s.heap) (hls : l.stackTraces = false) (hX : va_X sc L xs s s.heap) (hb0 : sc < s.heap.size) (hA0 : ¬ A sc) (hhf : ∀ j, j < 10 → hf j = some (Hs j 0)) (hi6 : i + 6 ≤ L) (hL : L ≤ 3072) (hcr : cells + 1 ≤ 601024 ∧ slots + 6 ≤ 7293034) (H : LI M g g1 g2 gh nx ct f1 f2 no v tx ip w σ h s2) (hM1 : 700000 ≤ M) (hM : M ≤ 1400000) (K : LGO p l e s m args below meth c D A Q sc κ ra la lb oa Ad AA Hs hf 2685 (M + 1200) i (cells + 1) (slots + 6)) : zW p l e RML s m args below meth c 9 D A cells slots Q (LAWW κ ra la lb oa Ad AA Hs hf fo g f g1 g2 gp gh nx ct f1 f2 no ot eo v tx ip w σ aw h s2) [(0, .ref (sc)), (1, .ref (ra)), (2, .ref (Ad 0)), (3, .ref (oa)), (4, .int (nI i))] 40 [.int (nI 27)] := z_tableIn (off := 1431) (tgt := 1471) C dL_law_40 (by decide) (by decide) (by decide +kernel) (by decide) (lc_27 C hXc hls hX hb0 hA0 hhf hi6 hL hcr H hM1 hM K)
theorem lcj_28 (C : zC p s m args c cL_law 9 wsL_law RL D (zTy κ) A) (hXc : aX adK adV A s s.heap) (hls : l.stackTraces = false) (hX : va_X sc L xs s s.heap) (hb0 : sc < s.heap.size) (hA0 : ¬ A sc) (hhf : ∀ j, j < 10 → hf j = some (Hs j 0)) (hi6 : i + 6 ≤ L) (hL : L ≤ 3072) (hcr : cells + 1 ≤ 601024 ∧ slots + 6 ≤ 7293034) (H : LI M g g1 g2 gh nx ct f1 f2 no v tx ip w σ h s2) (hM1 : 700000 ≤ M) (hM : M ≤ 1400000) (K : LGO p l e s m args below meth c D A Q sc κ ra la lb oa Ad AA Hs hf 2685 (M + 1200) i (cells + 1) (slots + 6)) : zW p l e RML s m args below meth c 9 D A cells slots Q (LAWW κ ra la lb oa Ad AA Hs hf fo g f g1 g2 gp gh nx ct f1 f2 no ot eo v tx ip w σ aw h s2) [(0, .ref (sc)), (1, .ref (ra)), (2, .ref (Ad 0)), (3, .ref (oa)), (4, .int (nI i))] 40 [.int (nI 28)] := z_tableIn (off := 1444) (tgt := 1484) C dL_law_40 (by decide) (by decide) (by decide +kernel) (by decide) (lc_28 C hXc hls hX hb0 hA0 hhf hi6 hL hcr H hM1 hM K)
theorem lcj_29 (C : zC p s m args c cL_law 9 wsL_law RL D (zTy κ) A) (hXc : aX adK adV A s s.heap) (hls : l.stackTraces = false) (hX : va_X sc L xs s s.heap) (hb0 : sc < s.heap.size) (hA0 : ¬ A sc) (hhf : ∀ j, j < 10 → hf j = some (Hs j 0)) (hi6 : i + 6 ≤ L) (hL : L ≤ 3072) (hcr : cells + 1 ≤ 601024 ∧ slots + 6 ≤ 7293034) (H : LI M g g1 g2 gh nx ct f1 f2 no v tx ip w σ h s2) (hM1 : 700000 ≤ M) (hM : M ≤ 1400000) (K : LGO p l e s m args below meth c D A Q sc κ ra la lb oa Ad AA Hs hf 2685 (M + 1200) i (cells + 1) (slots + 6)) : zW p l e RML s m args below meth c 9 D A cells slots Q (LAWW κ ra la lb oa Ad AA Hs hf fo g f g1 g2 gp gh nx ct f1 f2 no ot eo v tx ip w σ aw h s2) [(0, .ref (sc)), (1, .ref (ra)), (2, .ref (Ad 0)), (3, .ref (oa)), (4, .int (nI i))] 40 [.int (nI 29)] := z_tableIn (off := 1500) (tgt := 1540) C dL_law_40 (by decide) (by decide) (by decide +kernel) (by decide) (lc_29 C hXc hls hX hb0 hA0 hhf hi6 hL hcr H hM1 hM K)
theorem lcj_30 (C : zC p s m args c cL_law 9 wsL_law RL D (zTy κ) A) (hXc : aX adK adV A s s.heap) (hls : l.stackTraces = false) (hX : va_X sc L xs s s.heap) (hb0 : sc < s.heap.size) (hA0 : ¬ A sc) (hhf : ∀ j, j < 10 → hf j = some (Hs j 0)) (hi6 : i + 6 ≤ L) (hL : L ≤ 3072) (hcr : cells + 1 ≤ 601024 ∧ slots + 6 ≤ 7293034) (H : LI M g g1 g2 gh nx ct f1 f2 no v tx ip w σ h s2) (hM1 : 700000 ≤ M) (hM : M ≤ 1400000) (K : LGO p l e s m args below meth c D A Q sc κ ra la lb oa Ad AA Hs hf 2685 (M + 1200) i (cells + 1) (slots + 6)) : zW p l e RML s m args below meth c 9 D A cells slots Q (LAWW κ ra la lb oa Ad AA Hs hf fo g f g1 g2 gp gh nx ct f1 f2 no ot eo v tx ip w σ aw h s2) [(0, .ref (sc)), (1, .ref (ra)), (2, .ref (Ad 0)), (3, .ref (oa)), (4, .int (nI i))] 40 [.int (nI 30)] := z_tableIn (off := 1556) (tgt := 1596) C dL_law_40 (by decide) (by decide) (by decide +kernel) (by decide) (lc_30 C hXc hls hX hb0 hA0 hhf hi6 hL hcr H hM1 hM K)
theorem lcj_31 (C : zC p s m args c cL_law 9 wsL_law RL D (zTy κ) A) (hXc : aX adK adV A s s.heap) (hls : l.stackTraces = false) (hX : va_X sc L xs s s.heap) (hb0 : sc < s.heap.size) (hA0 : ¬ A sc) (hhf : ∀ j, j < 10 → hf j = some (Hs j 0)) (hi6 : i + 6 ≤ L) (hL : L ≤ 3072) (hcr : cells + 1 ≤ 601024 ∧ slots + 6 ≤ 7293034) (H : LI M g g1 g2 gh nx ct f1 f2 no v tx ip w σ h s2) (hM1 : 700000 ≤ M) (hM : M ≤ 1400000) (K : LGO p l e s m args below meth c D A Q sc κ ra la lb oa Ad AA Hs hf 2685 (M + 1200) i (cells + 1) (slots + 6)) : zW p l e RML s m args below meth c 9 D A cells slots Q (LAWW κ ra la lb oa Ad AA Hs hf fo g f g1 g2 gp gh nx ct f1 f2 no ot eo v tx ip w σ aw h s2) [(0, .ref (sc)), (1, .ref (ra)), (2, .ref (Ad 0)), (3, .ref (oa)), (4, .int (nI i))] 40 [.int (nI 31)] := z_tableIn (off := 1612) (tgt := 1652) C dL_law_40 (by decide) (by decide) (by decide +kernel) (by decide) (lc_31 C hXc hls hX hb0 hA0 hhf hi6 hL hcr H hM1 hM K)
theorem lcj_32 (C : zC p s m args c cL_law 9 wsL_law RL D (zTy κ) A) (hXc : aX adK adV A s s.heap) (hls : l.stackTraces = false) (hX : va_X sc L xs s s.heap) (hb0 : sc < s.heap.size) (hA0 : ¬ A sc) (hhf : ∀ j, j < 10 → hf j = some (Hs j 0)) (hi6 : i + 6 ≤ L) (hL : L ≤ 3072) (hcr : cells + 1 ≤ 601024 ∧ slots + 6 ≤ 7293034) (H : LI M g g1 g2 gh nx ct f1 f2 no v tx ip w σ h s2) (hM1 : 700000 ≤ M) (hM : M ≤ 1400000) (K : LGO p l e s m args below meth c D A Q sc κ ra la lb oa Ad AA Hs hf 2685 (M + 1200) i (cells + 1) (slots + 6)) : zW p l e RML s m args below meth c 9 D A cells slots Q (LAWW κ ra la lb oa Ad AA Hs hf fo g f g1 g2 gp gh nx ct f1 f2 no ot eo v tx ip w σ aw h s2) [(0, .ref (sc)), (1, .ref (ra)), (2, .ref (Ad 0)), (3, .ref (oa)), (4, .int (nI i))] 40 [.int (nI 32)] := z_tableIn (off := 1675) (tgt := 1715) C dL_law_40 (by decide) (by decide) (by decide +kernel) (by decide) (lc_32 C hXc hls hX hb0 hA0 hhf hi6 hL hcr H hM1 hM K)
theorem lcj_33 (C : zC p s m args c cL_law 9 wsL_law RL D (zTy κ) A) (hXc : aX adK adV A s s.heap) (hls : l.stackTraces = false) (hX : va_X sc L xs s s.heap) (hb0 : sc < s.heap.size) (hA0 : ¬ A sc) (hhf : ∀ j, j < 10 → hf j = some (Hs j 0)) (hi6 : i + 6 ≤ L) (hL : L ≤ 3072) (hcr : cells + 1 ≤ 601024 ∧ slots + 6 ≤ 7293034) (H : LI M g g1 g2 gh nx ct f1 f2 no v tx ip w σ h s2) (hM1 : 700000 ≤ M) (hM : M ≤ 1400000) (K : LGO p l e s m args below meth c D A Q sc κ ra la lb oa Ad AA Hs hf 2685 (M + 1200) i (cells + 1) (slots + 6)) : zW p l e RML s m args below meth c 9 D A cells slots Q (LAWW κ ra la lb oa Ad AA Hs hf fo g f g1 g2 gp gh nx ct f1 f2 no ot eo v tx ip w σ aw h s2) [(0, .ref (sc)), (1, .ref (ra)), (2, .ref (Ad 0)), (3, .ref (oa)), (4, .int (nI i))] 40 [.int (nI 33)] := z_tableIn (off := 1743) (tgt := 1783) C dL_law_40 (by decide) (by decide) (by decide +kernel) (by decide) (lc_33 C hXc hls hX hb0 hA0 hhf hi6 hL hcr H hM1 hM K)
theorem lcj_34 (C : zC p s m args c cL_law 9 wsL_law RL D (zTy κ) A) (hXc : aX adK adV A s s.heap) (hls : l.stackTraces = false) (hX : va_X sc L xs s s.heap) (hb0 : sc < s.heap.size) (hA0 : ¬ A sc) (hhf : ∀ j, j < 10 → hf j = some (Hs j 0)) (hi6 : i + 6 ≤ L) (hL : L ≤ 3072) (hcr : cells + 1 ≤ 601024 ∧ slots + 6 ≤ 7293034) (H : LI M g g1 g2 gh nx ct f1 f2 no v tx ip w σ h s2) (hM1 : 700000 ≤ M) (hM : M ≤ 1400000) (K : LGO p l e s m args below meth c D A Q sc κ ra la lb oa Ad AA Hs hf 2685 (M + 1200) i (cells + 1) (slots + 6)) : zW p l e RML s m args below meth c 9 D A cells slots Q (LAWW κ ra la lb oa Ad AA Hs hf fo g f g1 g2 gp gh nx ct f1 f2 no ot eo v tx ip w σ aw h s2) [(0, .ref (sc)), (1, .ref (ra)), (2, .ref (Ad 0)), (3, .ref (oa)), (4, .int (nI i))] 40 [.int (nI 34)] := z_tableIn (off := 1799) (tgt := 1839) C dL_law_40 (by decide) (by decide) (by decide +kernel) (by decide) (lc_34 C hXc hls hX hb0 hA0 hhf hi6 hL hcr H hM1 hM K)
theorem lcj_35 (C : zC p s m args c cL_law 9 wsL_law RL D (zTy κ) A) (hXc : aX adK adV A s s.heap) (hls : l.stackTraces = false) (hX : va_X sc L xs s s.heap) (hb0 : sc < s.heap.size) (hA0 : ¬ A sc) (hhf : ∀ j, j < 10 → hf j = some (Hs j 0)) (hi6 : i + 6 ≤ L) (hL : L ≤ 3072) (hcr : cells + 1 ≤ 601024 ∧ slots + 6 ≤ 7293034) (H : LI M g g1 g2 gh nx ct f1 f2 no v tx ip w σ h s2) (hM1 : 700000 ≤ M) (hM : M ≤ 1400000) (K : LGO p l e s m args below meth c D A Q sc κ ra la lb oa Ad AA Hs hf 2685 (M + 1200) i (cells + 1) (slots + 6)) : zW p l e RML s m args below meth c 9 D A cells slots Q (LAWW κ ra la lb oa Ad AA Hs hf fo g f g1 g2 gp gh nx ct f1 f2 no ot eo v tx ip w σ aw h s2) [(0, .ref (sc)), (1, .ref (ra)), (2, .ref (Ad 0)), (3, .ref (oa)), (4, .int (nI i))] 40 [.int (nI 35)] := z_tableIn (off := 1812) (tgt := 1852) C dL_law_40 (by decide) (by decide) (by decide +kernel) (by decide) (lc_35 C hXc hls hX hb0 hA0 hhf hi6 hL hcr H hM1 hM K)
theorem lcj_36 (C : zC p s m args c cL_law 9 wsL_law RL D (zTy κ) A) (hXc : aX adK adV A s s.heap) (hls : l.stackTraces = false) (hX : va_X sc L xs s s.heap) (hb0 : sc < s.heap.size) (hA0 : ¬ A sc) (hhf : ∀ j, j < 10 → hf j = some (Hs j 0)) (hi6 : i + 6 ≤ L) (hL : L ≤ 3072) (hcr : cells + 1 ≤ 601024 ∧ slots + 6 ≤ 7293034) (H : LI M g g1 g2 gh nx ct f1 f2 no v tx ip w σ h s2) (hM1 : 700000 ≤ M) (hM : M ≤ 1400000) (K : LGO p l e s m args below meth c D A Q sc κ ra la lb oa Ad AA Hs hf 2685 (M + 1200) i (cells + 1) (slots + 6)) : zW p l e RML s m args below meth c 9 D A cells slots Q (LAWW κ ra la lb oa Ad AA Hs hf fo g f g1 g2 gp gh nx ct f1 f2 no ot eo v tx ip w σ aw h s2) [(0, .ref (sc)), (1, .ref (ra)), (2, .ref (Ad 0)), (3, .ref (oa)), (4, .int (nI i))] 40 [.int (nI 36)] := z_tableIn (off := 1825) (tgt := 1865) C dL_law_40 (by decide) (by decide) (by decide +kernel) (by decide) (lc_36 C hXc hls hX hb0 hA0 hhf hi6 hL hcr H hM1 hM K)
theorem lcj_37 (C : zC p s m args c cL_law 9 wsL_law RL D (zTy κ) A) (hXc : aX adK adV A s s.heap) (hls : l.stackTraces = false) (hX : va_X sc L xs s s.heap) (hb0 : sc < s.heap.size) (hA0 : ¬ A sc) (hhf : ∀ j, j < 10 → hf j = some (Hs j 0)) (hi6 : i + 6 ≤ L) (hL : L ≤ 3072) (hcr : cells + 1 ≤ 601024 ∧ slots + 6 ≤ 7293034) (H : LI M g g1 g2 gh nx ct f1 f2 no v tx ip w σ h s2) (hM1 : 700000 ≤ M) (hM : M ≤ 1400000) (K : LGO p l e s m args below meth c D A Q sc κ ra la lb oa Ad AA Hs hf 2685 (M + 1200) i (cells + 1) (slots + 6)) : zW p l e RML s m args below meth c 9 D A cells slots Q (LAWW κ ra la lb oa Ad AA Hs hf fo g f g1 g2 gp gh nx ct f1 f2 no ot eo v tx ip w σ aw h s2) [(0, .ref (sc)), (1, .ref (ra)), (2, .ref (Ad 0)), (3, .ref (oa)), (4, .int (nI i))] 40 [.int (nI 37)] := z_tableIn (off := 1838) (tgt := 1878) C dL_law_40 (by decide) (by decide) (by decide +kernel) (by decide) (lc_37 C hXc hls hX hb0 hA0 hhf hi6 hL hcr H hM1 hM K)
theorem lcj_38 (C : zC p s m args c cL_law 9 wsL_law RL D (zTy κ) A) (hXc : aX adK adV A s s.heap) (hls : l.stackTraces = false) (hX : va_X sc L xs s s.heap) (hb0 : sc < s.heap.size) (hA0 : ¬ A sc) (hhf : ∀ j, j < 10 → hf j = some (Hs j 0)) (hi6 : i + 6 ≤ L) (hL : L ≤ 3072) (hcr : cells + 1 ≤ 601024 ∧ slots + 6 ≤ 7293034) (H : LI M g g1 g2 gh nx ct f1 f2 no v tx ip w σ h s2) (hM1 : 700000 ≤ M) (hM : M ≤ 1400000) (K : LGO p l e s m args below meth c D A Q sc κ ra la lb oa Ad AA Hs hf 2685 (M + 1200) i (cells + 1) (slots + 6)) : zW p l e RML s m args below meth c 9 D A cells slots Q (LAWW κ ra la lb oa Ad AA Hs hf fo g f g1 g2 gp gh nx ct f1 f2 no ot eo v tx ip w σ aw h s2) [(0, .ref (sc)), (1, .ref (ra)), (2, .ref (Ad 0)), (3, .ref (oa)), (4, .int (nI i))] 40 [.int (nI 38)] := z_tableIn (off := 1851) (tgt := 1891) C dL_law_40 (by decide) (by decide) (by decide +kernel) (by decide) (lc_38 C hXc hls hX hb0 hA0 hhf hi6 hL hcr H hM1 hM K)
theorem lcj_39 (C : zC p s m args c cL_law 9 wsL_law RL D (zTy κ) A) (hXc : aX adK adV A s s.heap) (hls : l.stackTraces = false) (hX : va_X sc L xs s s.heap) (hb0 : sc < s.heap.size) (hA0 : ¬ A sc) (hhf : ∀ j, j < 10 → hf j = some (Hs j 0)) (hi6 : i + 6 ≤ L) (hL : L ≤ 3072) (hcr : cells + 1 ≤ 601024 ∧ slots + 6 ≤ 7293034) (H : LI M g g1 g2 gh nx ct f1 f2 no v tx ip w σ h s2) (hM1 : 700000 ≤ M) (hM : M ≤ 1400000) (K : LGO p l e s m args below meth c D A Q sc κ ra la lb oa Ad AA Hs hf 2685 (M + 1200) i (cells + 1) (slots + 6)) : zW p l e RML s m args below meth c 9 D A cells slots Q (LAWW κ ra la lb oa Ad AA Hs hf fo g f g1 g2 gp gh nx ct f1 f2 no ot eo v tx ip w σ aw h s2) [(0, .ref (sc)), (1, .ref (ra)), (2, .ref (Ad 0)), (3, .ref (oa)), (4, .int (nI i))] 40 [.int (nI 39)] := z_tableIn (off := 1864) (tgt := 1904) C dL_law_40 (by decide) (by decide) (by decide +kernel) (by decide) (lc_39 C hXc hls hX hb0 hA0 hhf hi6 hL hcr H hM1 hM K)
theorem lcj_40 (C : zC p s m args c cL_law 9 wsL_law RL D (zTy κ) A) (hXc : aX adK adV A s s.heap) (hls : l.stackTraces = false) (hX : va_X sc L xs s s.heap) (hb0 : sc < s.heap.size) (hA0 : ¬ A sc) (hhf : ∀ j, j < 10 → hf j = some (Hs j 0)) (hi6 : i + 6 ≤ L) (hL : L ≤ 3072) (hcr : cells + 1 ≤ 601024 ∧ slots + 6 ≤ 7293034) (H : LI M g g1 g2 gh nx ct f1 f2 no v tx ip w σ h s2) (hM1 : 700000 ≤ M) (hM : M ≤ 1400000) (K : LGO p l e s m args below meth c D A Q sc κ ra la lb oa Ad AA Hs hf 2685 (M + 1200) i (cells + 1) (slots + 6)) : zW p l e RML s m args below meth c 9 D A cells slots Q (LAWW κ ra la lb oa Ad AA Hs hf fo g f g1 g2 gp gh nx ct f1 f2 no ot eo v tx ip w σ aw h s2) [(0, .ref (sc)), (1, .ref (ra)), (2, .ref (Ad 0)), (3, .ref (oa)), (4, .int (nI i))] 40 [.int (nI 40)] := z_tableIn (off := 1905) (tgt := 1945) C dL_law_40 (by decide) (by decide) (by decide +kernel) (by decide) (lc_40 C hXc hls hX hb0 hA0 hhf hi6 hL hcr H hM1 hM K)
theorem lcj_41 (C : zC p s m args c cL_law 9 wsL_law RL D (zTy κ) A) (hXc : aX adK adV A s s.heap) (hls : l.stackTraces = false) (hX : va_X sc L xs s s.heap) (hb0 : sc < s.heap.size) (hA0 : ¬ A sc) (hhf : ∀ j, j < 10 → hf j = some (Hs j 0)) (hi6 : i + 6 ≤ L) (hL : L ≤ 3072) (hcr : cells + 1 ≤ 601024 ∧ slots + 6 ≤ 7293034) (H : LI M g g1 g2 gh nx ct f1 f2 no v tx ip w σ h s2) (hM1 : 700000 ≤ M) (hM : M ≤ 1400000) (K : LGO p l e s m args below meth c D A Q sc κ ra la lb oa Ad AA Hs hf 2685 (M + 1200) i (cells + 1) (slots + 6)) : zW p l e RML s m args below meth c 9 D A cells slots Q (LAWW κ ra la lb oa Ad AA Hs hf fo g f g1 g2 gp gh nx ct f1 f2 no ot eo v tx ip w σ aw h s2) [(0, .ref (sc)), (1, .ref (ra)), (2, .ref (Ad 0)), (3, .ref (oa)), (4, .int (nI i))] 40 [.int (nI 41)] := z_tableIn (off := 1948) (tgt := 1988) C dL_law_40 (by decide) (by decide) (by decide +kernel) (by decide) (lc_41 C hXc hls hX hb0 hA0 hhf hi6 hL hcr H hM1 hM K)
theorem lcj_42 (C : zC p s m args c cL_law 9 wsL_law RL D (zTy κ) A) (hXc : aX adK adV A s s.heap) (hls : l.stackTraces = false) (hX : va_X sc L xs s s.heap) (hb0 : sc < s.heap.size) (hA0 : ¬ A sc) (hhf : ∀ j, j < 10 → hf j = some (Hs j 0)) (hi6 : i + 6 ≤ L) (hL : L ≤ 3072) (hcr : cells + 1 ≤ 601024 ∧ slots + 6 ≤ 7293034) (H : LI M g g1 g2 gh nx ct f1 f2 no v tx ip w σ h s2) (hM1 : 700000 ≤ M) (hM : M ≤ 1400000) (K : LGO p l e s m args below meth c D A Q sc κ ra la lb oa Ad AA Hs hf 2685 (M + 1200) i (cells + 1) (slots + 6)) : zW p l e RML s m args below meth c 9 D A cells slots Q (LAWW κ ra la lb oa Ad AA Hs hf fo g f g1 g2 gp gh nx ct f1 f2 no ot eo v tx ip w σ aw h s2) [(0, .ref (sc)), (1, .ref (ra)), (2, .ref (Ad 0)), (3, .ref (oa)), (4, .int (nI i))] 40 [.int (nI 42)] := z_tableIn (off := 2004) (tgt := 2044) C dL_law_40 (by decide) (by decide) (by decide +kernel) (by decide) (lc_42 C hXc hls hX hb0 hA0 hhf hi6 hL hcr H hM1 hM K)
theorem lcj_43 (C : zC p s m args c cL_law 9 wsL_law RL D (zTy κ) A) (hXc : aX adK adV A s s.heap) (hls : l.stackTraces = false) (hX : va_X sc L xs s s.heap) (hb0 : sc < s.heap.size) (hA0 : ¬ A sc) (hhf : ∀ j, j < 10 → hf j = some (Hs j 0)) (hi6 : i + 6 ≤ L) (hL : L ≤ 3072) (hcr : cells + 1 ≤ 601024 ∧ slots + 6 ≤ 7293034) (H : LI M g g1 g2 gh nx ct f1 f2 no v tx ip w σ h s2) (hM1 : 700000 ≤ M) (hM : M ≤ 1400000) (K : LGO p l e s m args below meth c D A Q sc κ ra la lb oa Ad AA Hs hf 2685 (M + 1200) i (cells + 1) (slots + 6)) : zW p l e RML s m args below meth c 9 D A cells slots Q (LAWW κ ra la lb oa Ad AA Hs hf fo g f g1 g2 gp gh nx ct f1 f2 no ot eo v tx ip w σ aw h s2) [(0, .ref (sc)), (1, .ref (ra)), (2, .ref (Ad 0)), (3, .ref (oa)), (4, .int (nI i))] 40 [.int (nI 43)] := z_tableIn (off := 2060) (tgt := 2100) C dL_law_40 (by decide) (by decide) (by decide +kernel) (by decide) (lc_43 C hXc hls hX hb0 hA0 hhf hi6 hL hcr H hM1 hM K)
theorem lcj_44 (C : zC p s m args c cL_law 9 wsL_law RL D (zTy κ) A) (hXc : aX adK adV A s s.heap) (hls : l.stackTraces = false) (hX : va_X sc L xs s s.heap) (hb0 : sc < s.heap.size) (hA0 : ¬ A sc) (hhf : ∀ j, j < 10 → hf j = some (Hs j 0)) (hi6 : i + 6 ≤ L) (hL : L ≤ 3072) (hcr : cells + 1 ≤ 601024 ∧ slots + 6 ≤ 7293034) (H : LI M g g1 g2 gh nx ct f1 f2 no v tx ip w σ h s2) (hM1 : 700000 ≤ M) (hM : M ≤ 1400000) (K : LGO p l e s m args below meth c D A Q sc κ ra la lb oa Ad AA Hs hf 2685 (M + 1200) i (cells + 1) (slots + 6)) : zW p l e RML s m args below meth c 9 D A cells slots Q (LAWW κ ra la lb oa Ad AA Hs hf fo g f g1 g2 gp gh nx ct f1 f2 no ot eo v tx ip w σ aw h s2) [(0, .ref (sc)), (1, .ref (ra)), (2, .ref (Ad 0)), (3, .ref (oa)), (4, .int (nI i))] 40 [.int (nI 44)] := z_tableIn (off := 2116) (tgt := 2156) C dL_law_40 (by decide) (by decide) (by decide +kernel) (by decide) (lc_44 C hXc hls hX hb0 hA0 hhf hi6 hL hcr H hM1 hM K)
theorem lcj_45 (C : zC p s m args c cL_law 9 wsL_law RL D (zTy κ) A) (hXc : aX adK adV A s s.heap) (hls : l.stackTraces = false) (hX : va_X sc L xs s s.heap) (hb0 : sc < s.heap.size) (hA0 : ¬ A sc) (hhf : ∀ j, j < 10 → hf j = some (Hs j 0)) (hi6 : i + 6 ≤ L) (hL : L ≤ 3072) (hcr : cells + 1 ≤ 601024 ∧ slots + 6 ≤ 7293034) (H : LI M g g1 g2 gh nx ct f1 f2 no v tx ip w σ h s2) (hM1 : 700000 ≤ M) (hM : M ≤ 1400000) (K : LGO p l e s m args below meth c D A Q sc κ ra la lb oa Ad AA Hs hf 2685 (M + 1200) i (cells + 1) (slots + 6)) : zW p l e RML s m args below meth c 9 D A cells slots Q (LAWW κ ra la lb oa Ad AA Hs hf fo g f g1 g2 gp gh nx ct f1 f2 no ot eo v tx ip w σ aw h s2) [(0, .ref (sc)), (1, .ref (ra)), (2, .ref (Ad 0)), (3, .ref (oa)), (4, .int (nI i))] 40 [.int (nI 45)] := z_tableIn (off := 2172) (tgt := 2212) C dL_law_40 (by decide) (by decide) (by decide +kernel) (by decide) (lc_45 C hXc hls hX hb0 hA0 hhf hi6 hL hcr H hM1 hM K)
theorem lcj_46 (C : zC p s m args c cL_law 9 wsL_law RL D (zTy κ) A) (hXc : aX adK adV A s s.heap) (hls : l.stackTraces = false) (hX : va_X sc L xs s s.heap) (hb0 : sc < s.heap.size) (hA0 : ¬ A sc) (hhf : ∀ j, j < 10 → hf j = some (Hs j 0)) (hi6 : i + 6 ≤ L) (hL : L ≤ 3072) (hcr : cells + 1 ≤ 601024 ∧ slots + 6 ≤ 7293034) (H : LI M g g1 g2 gh nx ct f1 f2 no v tx ip w σ h s2) (hM1 : 700000 ≤ M) (hM : M ≤ 1400000) (K : LGO p l e s m args below meth c D A Q sc κ ra la lb oa Ad AA Hs hf 2685 (M + 1200) i (cells + 1) (slots + 6)) : zW p l e RML s m args below meth c 9 D A cells slots Q (LAWW κ ra la lb oa Ad AA Hs hf fo g f g1 g2 gp gh nx ct f1 f2 no ot eo v tx ip w σ aw h s2) [(0, .ref (sc)), (1, .ref (ra)), (2, .ref (Ad 0)), (3, .ref (oa)), (4, .int (nI i))] 40 [.int (nI 46)] := z_tableIn (off := 2228) (tgt := 2268) C dL_law_40 (by decide) (by decide) (by decide +kernel) (by decide) (lc_46 C hXc hls hX hb0 hA0 hhf hi6 hL hcr H hM1 hM K)
theorem lcj_47 (C : zC p s m args c cL_law 9 wsL_law RL D (zTy κ) A) (hXc : aX adK adV A s s.heap) (hls : l.stackTraces = false) (hX : va_X sc L xs s s.heap) (hb0 : sc < s.heap.size) (hA0 : ¬ A sc) (hhf : ∀ j, j < 10 → hf j = some (Hs j 0)) (hi6 : i + 6 ≤ L) (hL : L ≤ 3072) (hcr : cells + 1 ≤ 601024 ∧ slots + 6 ≤ 7293034) (H : LI M g g1 g2 gh nx ct f1 f2 no v tx ip w σ h s2) (hM1 : 700000 ≤ M) (hM : M ≤ 1400000) (K : LGO p l e s m args below meth c D A Q sc κ ra la lb oa Ad AA Hs hf 2685 (M + 1200) i (cells + 1) (slots + 6)) : zW p l e RML s m args below meth c 9 D A cells slots Q (LAWW κ ra la lb oa Ad AA Hs hf fo g f g1 g2 gp gh nx ct f1 f2 no ot eo v tx ip w σ aw h s2) [(0, .ref (sc)), (1, .ref (ra)), (2, .ref (Ad 0)), (3, .ref (oa)), (4, .int (nI i))] 40 [.int (nI 47)] := z_tableIn (off := 2296) (tgt := 2336) C dL_law_40 (by decide) (by decide) (by decide +kernel) (by decide) (lc_47 C hXc hls hX hb0 hA0 hhf hi6 hL hcr H hM1 hM K)
theorem lcj_48 (C : zC p s m args c cL_law 9 wsL_law RL D (zTy κ) A) (hXc : aX adK adV A s s.heap) (hls : l.stackTraces = false) (hX : va_X sc L xs s s.heap) (hb0 : sc < s.heap.size) (hA0 : ¬ A sc) (hhf : ∀ j, j < 10 → hf j = some (Hs j 0)) (hi6 : i + 6 ≤ L) (hL : L ≤ 3072) (hcr : cells + 1 ≤ 601024 ∧ slots + 6 ≤ 7293034) (H : LI M g g1 g2 gh nx ct f1 f2 no v tx ip w σ h s2) (hM1 : 700000 ≤ M) (hM : M ≤ 1400000) (K : LGO p l e s m args below meth c D A Q sc κ ra la lb oa Ad AA Hs hf 2685 (M + 1200) i (cells + 1) (slots + 6)) : zW p l e RML s m args below meth c 9 D A cells slots Q (LAWW κ ra la lb oa Ad AA Hs hf fo g f g1 g2 gp gh nx ct f1 f2 no ot eo v tx ip w σ aw h s2) [(0, .ref (sc)), (1, .ref (ra)), (2, .ref (Ad 0)), (3, .ref (oa)), (4, .int (nI i))] 40 [.int (nI 48)] := z_tableIn (off := 2364) (tgt := 2404) C dL_law_40 (by decide) (by decide) (by decide +kernel) (by decide) (lc_48 C hXc hls hX hb0 hA0 hhf hi6 hL hcr H hM1 hM K)
theorem lcj_49 (C : zC p s m args c cL_law 9 wsL_law RL D (zTy κ) A) (hXc : aX adK adV A s s.heap) (hls : l.stackTraces = false) (hX : va_X sc L xs s s.heap) (hb0 : sc < s.heap.size) (hA0 : ¬ A sc) (hhf : ∀ j, j < 10 → hf j = some (Hs j 0)) (hi6 : i + 6 ≤ L) (hL : L ≤ 3072) (hcr : cells + 1 ≤ 601024 ∧ slots + 6 ≤ 7293034) (H : LI M g g1 g2 gh nx ct f1 f2 no v tx ip w σ h s2) (hM1 : 700000 ≤ M) (hM : M ≤ 1400000) (K : LGO p l e s m args below meth c D A Q sc κ ra la lb oa Ad AA Hs hf 2685 (M + 1200) i (cells + 1) (slots + 6)) : zW p l e RML s m args below meth c 9 D A cells slots Q (LAWW κ ra la lb oa Ad AA Hs hf fo g f g1 g2 gp gh nx ct f1 f2 no ot eo v tx ip w σ aw h s2) [(0, .ref (sc)), (1, .ref (ra)), (2, .ref (Ad 0)), (3, .ref (oa)), (4, .int (nI i))] 40 [.int (nI 49)] := z_tableIn (off := 2420) (tgt := 2460) C dL_law_40 (by decide) (by decide) (by decide +kernel) (by decide) (lc_49 C hXc hls hX hb0 hA0 hhf hi6 hL hcr H hM1 hM K)
theorem lcj_50 (C : zC p s m args c cL_law 9 wsL_law RL D (zTy κ) A) (hXc : aX adK adV A s s.heap) (hls : l.stackTraces = false) (hX : va_X sc L xs s s.heap) (hb0 : sc < s.heap.size) (hA0 : ¬ A sc) (hhf : ∀ j, j < 10 → hf j = some (Hs j 0)) (hi6 : i + 6 ≤ L) (hL : L ≤ 3072) (hcr : cells + 1 ≤ 601024 ∧ slots + 6 ≤ 7293034) (H : LI M g g1 g2 gh nx ct f1 f2 no v tx ip w σ h s2) (hM1 : 700000 ≤ M) (hM : M ≤ 1400000) (K : LGO p l e s m args below meth c D A Q sc κ ra la lb oa Ad AA Hs hf 2685 (M + 1200) i (cells + 1) (slots + 6)) : zW p l e RML s m args below meth c 9 D A cells slots Q (LAWW κ ra la lb oa Ad AA Hs hf fo g f g1 g2 gp gh nx ct f1 f2 no ot eo v tx ip w σ aw h s2) [(0, .ref (sc)), (1, .ref (ra)), (2, .ref (Ad 0)), (3, .ref (oa)), (4, .int (nI i))] 40 [.int (nI 50)] := z_tableIn (off := 2464) (tgt := 2504) C dL_law_40 (by decide) (by decide) (by decide +kernel) (by decide) (lc_50 C hXc hls hX hb0 hA0 hhf hi6 hL hcr H hM1 hM K)
theorem lcj_51 (C : zC p s m args c cL_law 9 wsL_law RL D (zTy κ) A) (hXc : aX adK adV A s s.heap) (hls : l.stackTraces = false) (hX : va_X sc L xs s s.heap) (hb0 : sc < s.heap.size) (hA0 : ¬ A sc) (hhf : ∀ j, j < 10 → hf j = some (Hs j 0)) (hi6 : i + 6 ≤ L) (hL : L ≤ 3072) (hcr : cells + 1 ≤ 601024 ∧ slots + 6 ≤ 7293034) (H : LI M g g1 g2 gh nx ct f1 f2 no v tx ip w σ h s2) (hM1 : 700000 ≤ M) (hM : M ≤ 1400000) (K : LGO p l e s m args below meth c D A Q sc κ ra la lb oa Ad AA Hs hf 2685 (M + 1200) i (cells + 1) (slots + 6)) : zW p l e RML s m args below meth c 9 D A cells slots Q (LAWW κ ra la lb oa Ad AA Hs hf fo g f g1 g2 gp gh nx ct f1 f2 no ot eo v tx ip w σ aw h s2) [(0, .ref (sc)), (1, .ref (ra)), (2, .ref (Ad 0)), (3, .ref (oa)), (4, .int (nI i))] 40 [.int (nI 51)] := z_tableIn (off := 2520) (tgt := 2560) C dL_law_40 (by decide) (by decide) (by decide +kernel) (by decide) (lc_51 C hXc hls hX hb0 hA0 hhf hi6 hL hcr H hM1 hM K)
theorem lcj_52 (C : zC p s m args c cL_law 9 wsL_law RL D (zTy κ) A) (hXc : aX adK adV A s s.heap) (hls : l.stackTraces = false) (hX : va_X sc L xs s s.heap) (hb0 : sc < s.heap.size) (hA0 : ¬ A sc) (hhf : ∀ j, j < 10 → hf j = some (Hs j 0)) (hi6 : i + 6 ≤ L) (hL : L ≤ 3072) (hcr : cells + 1 ≤ 601024 ∧ slots + 6 ≤ 7293034) (H : LI M g g1 g2 gh nx ct f1 f2 no v tx ip w σ h s2) (hM1 : 700000 ≤ M) (hM : M ≤ 1400000) (K : LGO p l e s m args below meth c D A Q sc κ ra la lb oa Ad AA Hs hf 2685 (M + 1200) i (cells + 1) (slots + 6)) : zW p l e RML s m args below meth c 9 D A cells slots Q (LAWW κ ra la lb oa Ad AA Hs hf fo g f g1 g2 gp gh nx ct f1 f2 no ot eo v tx ip w σ aw h s2) [(0, .ref (sc)), (1, .ref (ra)), (2, .ref (Ad 0)), (3, .ref (oa)), (4, .int (nI i))] 40 [.int (nI 52)] := z_tableIn (off := 2533) (tgt := 2573) C dL_law_40 (by decide) (by decide) (by decide +kernel) (by decide) (lc_52 C hXc hls hX hb0 hA0 hhf hi6 hL hcr H hM1 hM K)
theorem lcj_53 (C : zC p s m args c cL_law 9 wsL_law RL D (zTy κ) A) (hXc : aX adK adV A s s.heap) (hls : l.stackTraces = false) (hX : va_X sc L xs s s.heap) (hb0 : sc < s.heap.size) (hA0 : ¬ A sc) (hhf : ∀ j, j < 10 → hf j = some (Hs j 0)) (hi6 : i + 6 ≤ L) (hL : L ≤ 3072) (hcr : cells + 1 ≤ 601024 ∧ slots + 6 ≤ 7293034) (H : LI M g g1 g2 gh nx ct f1 f2 no v tx ip w σ h s2) (hM1 : 700000 ≤ M) (hM : M ≤ 1400000) (K : LGO p l e s m args below meth c D A Q sc κ ra la lb oa Ad AA Hs hf 2685 (M + 1200) i (cells + 1) (slots + 6)) : zW p l e RML s m args below meth c 9 D A cells slots Q (LAWW κ ra la lb oa Ad AA Hs hf fo g f g1 g2 gp gh nx ct f1 f2 no ot eo v tx ip w σ aw h s2) [(0, .ref (sc)), (1, .ref (ra)), (2, .ref (Ad 0)), (3, .ref (oa)), (4, .int (nI i))] 40 [.int (nI 53)] := z_tableIn (off := 2589) (tgt := 2629) C dL_law_40 (by decide) (by decide) (by decide +kernel) (by decide) (lc_53 C hXc hls hX hb0 hA0 hhf hi6 hL hcr H hM1 hM K)
theorem lcj_out (C : zC p s m args c cL_law 9 wsL_law RL D (zTy κ) A) (hXc : aX adK adV A s s.heap) (hls : l.stackTraces = false) (hX : va_X sc L xs s s.heap) (hb0 : sc < s.heap.size) (hA0 : ¬ A sc) (hhf : ∀ j, j < 10 → hf j = some (Hs j 0)) (hi6 : i + 6 ≤ L) (hL : L ≤ 3072) (hcr : cells + 1 ≤ 601024 ∧ slots + 6 ≤ 7293034) (H : LI M g g1 g2 gh nx ct f1 f2 no v tx ip w σ h s2) (hM1 : 700000 ≤ M) (hM : M ≤ 1400000) (K : LGO p l e s m args below meth c D A Q sc κ ra la lb oa Ad AA Hs hf 2685 (M + 1200) i (cells + 1) (slots + 6)) (j : Nat) (hj : 53 < j) (hj2 : j < 64) : zW p l e RML s m args below meth c 9 D A cells slots Q (LAWW κ ra la lb oa Ad AA Hs hf fo g f g1 g2 gp gh nx ct f1 f2 no ot eo v tx ip w σ aw h s2) [(0, .ref (sc)), (1, .ref (ra)), (2, .ref (Ad 0)), (3, .ref (oa)), (4, .int (nI i))] 40 [.int (nI j)] := by
  refine z_tableOut (tgt := 2685) C dL_law_40 (Or.inr ?_) (by decide) ?_
  · rw [nI_toInt (by omega)]
    omega
  · exact K fo g f g1 g2 gp gh nx ct f1 f2 no ot eo v tx ip w σ aw h s2 cells slots (by omega) (by omega) (H.mono (by omega) (by omega))
theorem lc_all (C : zC p s m args c cL_law 9 wsL_law RL D (zTy κ) A) (hXc : aX adK adV A s s.heap) (hls : l.stackTraces = false) (hX : va_X sc L xs s s.heap) (hb0 : sc < s.heap.size) (hA0 : ¬ A sc) (hhf : ∀ j, j < 10 → hf j = some (Hs j 0)) (hi6 : i + 6 ≤ L) (hL : L ≤ 3072) (hcr : cells + 1 ≤ 601024 ∧ slots + 6 ≤ 7293034) (H : LI M g g1 g2 gh nx ct f1 f2 no v tx ip w σ h s2) (hM1 : 700000 ≤ M) (hM : M ≤ 1400000) (K : LGO p l e s m args below meth c D A Q sc κ ra la lb oa Ad AA Hs hf 2685 (M + 1200) i (cells + 1) (slots + 6)) (j : Nat) (hj : j < 64) : zW p l e RML s m args below meth c 9 D A cells slots Q (LAWW κ ra la lb oa Ad AA Hs hf fo g f g1 g2 gp gh nx ct f1 f2 no ot eo v tx ip w σ aw h s2) [(0, .ref (sc)), (1, .ref (ra)), (2, .ref (Ad 0)), (3, .ref (oa)), (4, .int (nI i))] 40 [.int (nI j)] := by
  by_cases hq : 53 < j
  · exact lcj_out C hXc hls hX hb0 hA0 hhf hi6 hL hcr H hM1 hM K j hq hj
  · by_cases h0x54 : j < 27
    · by_cases h0x27 : j < 13
      · by_cases h0x13 : j < 6
        · by_cases h0x6 : j < 3
          · by_cases h0x3 : j < 1
            · obtain rfl : j = 0 := by omega
              exact lcj_0 C hXc hls hX hb0 hA0 hhf hi6 hL hcr H hM1 hM K
            · by_cases h1x3 : j < 2
              · obtain rfl : j = 1 := by omega
                exact lcj_1 C hXc hls hX hb0 hA0 hhf hi6 hL hcr H hM1 hM K
              · obtain rfl : j = 2 := by omega
                exact lcj_2 C hXc hls hX hb0 hA0 hhf hi6 hL hcr H hM1 hM K
          · by_cases h3x6 : j < 4
            · obtain rfl : j = 3 := by omega
              exact lcj_3 C hXc hls hX hb0 hA0 hhf hi6 hL hcr H hM1 hM K
            · by_cases h4x6 : j < 5
              · obtain rfl : j = 4 := by omega
                exact lcj_4 C hXc hls hX hb0 hA0 hhf hi6 hL hcr H hM1 hM K
              · obtain rfl : j = 5 := by omega
                exact lcj_5 C hXc hls hX hb0 hA0 hhf hi6 hL hcr H hM1 hM K
        · by_cases h6x13 : j < 9
          · by_cases h6x9 : j < 7
            · obtain rfl : j = 6 := by omega
              exact lcj_6 C hXc hls hX hb0 hA0 hhf hi6 hL hcr H hM1 hM K
            · by_cases h7x9 : j < 8
              · obtain rfl : j = 7 := by omega
                exact lcj_7 C hXc hls hX hb0 hA0 hhf hi6 hL hcr H hM1 hM K
              · obtain rfl : j = 8 := by omega
                exact lcj_8 C hXc hls hX hb0 hA0 hhf hi6 hL hcr H hM1 hM K
          · by_cases h9x13 : j < 11
            · by_cases h9x11 : j < 10
              · obtain rfl : j = 9 := by omega
                exact lcj_9 C hXc hls hX hb0 hA0 hhf hi6 hL hcr H hM1 hM K
              · obtain rfl : j = 10 := by omega
                exact lcj_10 C hXc hls hX hb0 hA0 hhf hi6 hL hcr H hM1 hM K
            · by_cases h11x13 : j < 12
              · obtain rfl : j = 11 := by omega
                exact lcj_11 C hXc hls hX hb0 hA0 hhf hi6 hL hcr H hM1 hM K
              · obtain rfl : j = 12 := by omega
                exact lcj_12 C hXc hls hX hb0 hA0 hhf hi6 hL hcr H hM1 hM K
      · by_cases h13x27 : j < 20
        · by_cases h13x20 : j < 16
          · by_cases h13x16 : j < 14
            · obtain rfl : j = 13 := by omega
              exact lcj_13 C hXc hls hX hb0 hA0 hhf hi6 hL hcr H hM1 hM K
            · by_cases h14x16 : j < 15
              · obtain rfl : j = 14 := by omega
                exact lcj_14 C hXc hls hX hb0 hA0 hhf hi6 hL hcr H hM1 hM K
              · obtain rfl : j = 15 := by omega
                exact lcj_15 C hXc hls hX hb0 hA0 hhf hi6 hL hcr H hM1 hM K
          · by_cases h16x20 : j < 18
            · by_cases h16x18 : j < 17
              · obtain rfl : j = 16 := by omega
                exact lcj_16 C hXc hls hX hb0 hA0 hhf hi6 hL hcr H hM1 hM K
              · obtain rfl : j = 17 := by omega
                exact lcj_17 C hXc hls hX hb0 hA0 hhf hi6 hL hcr H hM1 hM K
            · by_cases h18x20 : j < 19
              · obtain rfl : j = 18 := by omega
                exact lcj_18 C hXc hls hX hb0 hA0 hhf hi6 hL hcr H hM1 hM K
              · obtain rfl : j = 19 := by omega
                exact lcj_19 C hXc hls hX hb0 hA0 hhf hi6 hL hcr H hM1 hM K
        · by_cases h20x27 : j < 23
          · by_cases h20x23 : j < 21
            · obtain rfl : j = 20 := by omega
              exact lcj_20 C hXc hls hX hb0 hA0 hhf hi6 hL hcr H hM1 hM K
            · by_cases h21x23 : j < 22
              · obtain rfl : j = 21 := by omega
                exact lcj_21 C hXc hls hX hb0 hA0 hhf hi6 hL hcr H hM1 hM K
              · obtain rfl : j = 22 := by omega
                exact lcj_22 C hXc hls hX hb0 hA0 hhf hi6 hL hcr H hM1 hM K
          · by_cases h23x27 : j < 25
            · by_cases h23x25 : j < 24
              · obtain rfl : j = 23 := by omega
                exact lcj_23 C hXc hls hX hb0 hA0 hhf hi6 hL hcr H hM1 hM K
              · obtain rfl : j = 24 := by omega
                exact lcj_24 C hXc hls hX hb0 hA0 hhf hi6 hL hcr H hM1 hM K
            · by_cases h25x27 : j < 26
              · obtain rfl : j = 25 := by omega
                exact lcj_25 C hXc hls hX hb0 hA0 hhf hi6 hL hcr H hM1 hM K
              · obtain rfl : j = 26 := by omega
                exact lcj_26 C hXc hls hX hb0 hA0 hhf hi6 hL hcr H hM1 hM K
    · by_cases h27x54 : j < 40
      · by_cases h27x40 : j < 33
        · by_cases h27x33 : j < 30
          · by_cases h27x30 : j < 28
            · obtain rfl : j = 27 := by omega
              exact lcj_27 C hXc hls hX hb0 hA0 hhf hi6 hL hcr H hM1 hM K
            · by_cases h28x30 : j < 29
              · obtain rfl : j = 28 := by omega
                exact lcj_28 C hXc hls hX hb0 hA0 hhf hi6 hL hcr H hM1 hM K
              · obtain rfl : j = 29 := by omega
                exact lcj_29 C hXc hls hX hb0 hA0 hhf hi6 hL hcr H hM1 hM K
          · by_cases h30x33 : j < 31
            · obtain rfl : j = 30 := by omega
              exact lcj_30 C hXc hls hX hb0 hA0 hhf hi6 hL hcr H hM1 hM K
            · by_cases h31x33 : j < 32
              · obtain rfl : j = 31 := by omega
                exact lcj_31 C hXc hls hX hb0 hA0 hhf hi6 hL hcr H hM1 hM K
              · obtain rfl : j = 32 := by omega
                exact lcj_32 C hXc hls hX hb0 hA0 hhf hi6 hL hcr H hM1 hM K
        · by_cases h33x40 : j < 36
          · by_cases h33x36 : j < 34
            · obtain rfl : j = 33 := by omega
              exact lcj_33 C hXc hls hX hb0 hA0 hhf hi6 hL hcr H hM1 hM K
            · by_cases h34x36 : j < 35
              · obtain rfl : j = 34 := by omega
                exact lcj_34 C hXc hls hX hb0 hA0 hhf hi6 hL hcr H hM1 hM K
              · obtain rfl : j = 35 := by omega
                exact lcj_35 C hXc hls hX hb0 hA0 hhf hi6 hL hcr H hM1 hM K
          · by_cases h36x40 : j < 38
            · by_cases h36x38 : j < 37
              · obtain rfl : j = 36 := by omega
                exact lcj_36 C hXc hls hX hb0 hA0 hhf hi6 hL hcr H hM1 hM K
              · obtain rfl : j = 37 := by omega
                exact lcj_37 C hXc hls hX hb0 hA0 hhf hi6 hL hcr H hM1 hM K
            · by_cases h38x40 : j < 39
              · obtain rfl : j = 38 := by omega
                exact lcj_38 C hXc hls hX hb0 hA0 hhf hi6 hL hcr H hM1 hM K
              · obtain rfl : j = 39 := by omega
                exact lcj_39 C hXc hls hX hb0 hA0 hhf hi6 hL hcr H hM1 hM K
      · by_cases h40x54 : j < 47
        · by_cases h40x47 : j < 43
          · by_cases h40x43 : j < 41
            · obtain rfl : j = 40 := by omega
              exact lcj_40 C hXc hls hX hb0 hA0 hhf hi6 hL hcr H hM1 hM K
            · by_cases h41x43 : j < 42
              · obtain rfl : j = 41 := by omega
                exact lcj_41 C hXc hls hX hb0 hA0 hhf hi6 hL hcr H hM1 hM K
              · obtain rfl : j = 42 := by omega
                exact lcj_42 C hXc hls hX hb0 hA0 hhf hi6 hL hcr H hM1 hM K
          · by_cases h43x47 : j < 45
            · by_cases h43x45 : j < 44
              · obtain rfl : j = 43 := by omega
                exact lcj_43 C hXc hls hX hb0 hA0 hhf hi6 hL hcr H hM1 hM K
              · obtain rfl : j = 44 := by omega
                exact lcj_44 C hXc hls hX hb0 hA0 hhf hi6 hL hcr H hM1 hM K
            · by_cases h45x47 : j < 46
              · obtain rfl : j = 45 := by omega
                exact lcj_45 C hXc hls hX hb0 hA0 hhf hi6 hL hcr H hM1 hM K
              · obtain rfl : j = 46 := by omega
                exact lcj_46 C hXc hls hX hb0 hA0 hhf hi6 hL hcr H hM1 hM K
        · by_cases h47x54 : j < 50
          · by_cases h47x50 : j < 48
            · obtain rfl : j = 47 := by omega
              exact lcj_47 C hXc hls hX hb0 hA0 hhf hi6 hL hcr H hM1 hM K
            · by_cases h48x50 : j < 49
              · obtain rfl : j = 48 := by omega
                exact lcj_48 C hXc hls hX hb0 hA0 hhf hi6 hL hcr H hM1 hM K
              · obtain rfl : j = 49 := by omega
                exact lcj_49 C hXc hls hX hb0 hA0 hhf hi6 hL hcr H hM1 hM K
          · by_cases h50x54 : j < 52
            · by_cases h50x52 : j < 51
              · obtain rfl : j = 50 := by omega
                exact lcj_50 C hXc hls hX hb0 hA0 hhf hi6 hL hcr H hM1 hM K
              · obtain rfl : j = 51 := by omega
                exact lcj_51 C hXc hls hX hb0 hA0 hhf hi6 hL hcr H hM1 hM K
            · by_cases h52x54 : j < 53
              · obtain rfl : j = 52 := by omega
                exact lcj_52 C hXc hls hX hb0 hA0 hhf hi6 hL hcr H hM1 hM K
              · obtain rfl : j = 53 := by omega
                exact lcj_53 C hXc hls hX hb0 hA0 hhf hi6 hL hcr H hM1 hM K
end LCC
