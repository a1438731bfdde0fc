section LOC
theorem allL_congr {P Q : Nat → Bool} : ∀ n, (∀ k, k < n → P k = Q k) → allL P n = allL Q n
  | 0, _ => rfl
  | n + 1, h => by
    simp only [allL]
    rw [allL_congr n (fun k hk => h k (by omega)), h n (by omega)]
section LL
variable {tx ip : Nat → Int32} {n : Nat} (h : ∀ j, j < n → tx j = ip j)
theorem scn_loc (h : ∀ j, j < n → tx j = ip j) (P : Int32 → Bool) : ∀ f p, p + f ≤ n → scn P tx f p = scn P ip f p
  | 0, p, _ => rfl
  | f + 1, p, hp => by
    simp only [scn]
    rw [h p (by omega), scn_loc h P f (p + 1) (by omega)]
theorem tkF_loc (h : ∀ j, j < n → tx j = ip j) {p : Nat} (hp : p ≤ n) : tkF tx n p = tkF ip n p := scn_loc h isSp (n - p) p (by omega)
theorem tkT_loc (h : ∀ j, j < n → tx j = ip j) {p : Nat} (hp : p ≤ n) : tkT tx n p = tkT ip n p := by
  simp only [tkT]
  rw [tkF_loc h hp]
  have hq := tkF_le (ip := ip) hp
  generalize tkF ip n p = q at hq
  by_cases e : q = n
  · rw [if_pos e, if_pos e]
  · rw [if_neg e, if_neg e, h q (by omega), scn_loc h isLt (n - q) q (by omega), scn_loc h isDg (n - q) q (by omega)]
theorem tkK_loc (h : ∀ j, j < n → tx j = ip j) {p k : Nat} (hp : p ≤ n) : tkK tx n k p = tkK ip n k p := by
  have hg : tkG tx n k p = tkG ip n k p := by
    simp only [tkG]
    rw [tkF_loc h hp]
  simp only [tkK]
  rw [hg, tkT_loc h hp, tkF_loc h hp]
  have hq := tkF_le (ip := ip) hp
  generalize tkF ip n p = q at hq
  by_cases e : q = n
  · rw [if_pos e, if_pos e]
  · rw [if_neg e, if_neg e, h q (by omega)]
theorem nxT_loc (h : ∀ j, j < n → tx j = ip j) {T : Tok} (hT : T.2.2 ≤ n) : nxT tx n T = nxT ip n T := by
  simp only [nxT]
  rw [tkF_loc h hT, tkT_loc h hT, tkK_loc h hT]
theorem numV_loc (h : ∀ j, j < n → tx j = ip j) {f : Nat} : ∀ c, (0 < c → f + c ≤ n) → numV tx f c = numV ip f c
  | 0, _ => rfl
  | c + 1, hc => by
    simp only [numV]
    rw [numV_loc h c (fun _ => by have := hc (by omega); omega), h (f + c) (by have := hc (by omega); omega)]
theorem pNum_loc (h : ∀ j, j < n → tx j = ip j) {T : Tok} (hT : T.2.2 ≤ n) (lo hX : Nat) : pNum tx lo hX T = pNum ip lo hX T := by
  simp only [pNum]
  rw [numV_loc h (T.2.2 - T.2.1) (fun _ => by omega)]
theorem kyM_loc (h : ∀ j, j < n → tx j = ip j) {T : Tok} (hT : T.2.2 ≤ n) (i : Nat) : kyM i tx T = kyM i ip T := by
  simp only [kyM]
  rw [allL_congr (P := kyB i tx T.2.1 T.2.2) (Q := kyB i ip T.2.1 T.2.2) 7 (fun k _ => ?_)]
  simp only [kyB]
  by_cases q : k < T.2.2 - T.2.1
  · rw [if_pos q, if_pos q, h (T.2.1 + k) (by omega)]
  · rw [if_neg q, if_neg q]
theorem nxT_le (ip : Nat → Int32) {T : Tok} (hT : T.2.2 ≤ n) : (nxT ip n T).2.2 ≤ n := (nxT_t (ip := ip) hT).2
theorem pLine_loc (h : ∀ j, j < n → tx j = ip j) {σ : Nat → Nat} {T : Tok} (hT : T.2.2 ≤ n) : pLine tx n σ T = pLine ip n σ T := by
  have t1 := nxT_le ip hT
  have t2 := nxT_le ip t1
  have t3 := nxT_le ip t2
  have t4 := nxT_le ip t3
  have n1 := nxT_loc h hT
  have n2 := nxT_loc h t1
  have n3 := nxT_loc h t2
  have n4 := nxT_loc h t3
  have n5 := nxT_loc h t4
  have p1 := pNum_loc h t1
  have p2 := pNum_loc h t2
  have p3 := pNum_loc h t3
  have p4 := pNum_loc h t4
  have k0 := kyM_loc h hT
  have k3 := kyM_loc h t3
  simp only [pLine, pBlock, pTrain, pPull, pDanger, pRepair, pTicks, n1, n2, n3, n4, n5, p1, p2, p3, p4, k0, k3]
theorem pLine_tok {σ : Nat → Nat} {T : Tok} {r : PSt} (hT : T.2.2 ≤ n) (hr : pLine ip n σ T = .inr r) : r.2.2.2 ≤ n := by
  have t1 := nxT_le ip hT
  have t2 := nxT_le ip t1
  have t3 := nxT_le ip t2
  have t4 := nxT_le ip t3
  have t5 := nxT_le ip t4
  simp only [pLine] at hr
  split at hr
  · simp only [pBlock] at hr
    split at hr
    · cases hr
    obtain ⟨a, ha, hr⟩ := bdS_inr hr
    obtain ⟨b, hb, hr⟩ := bdS_inr hr
    split at hr
    · obtain ⟨c, hc, hr⟩ := bdS_inr hr
      obtain rfl := Sum.inr.inj hr
      exact t5
    · obtain rfl := Sum.inr.inj hr
      exact t3
  split at hr
  · simp only [pTrain] at hr
    split at hr
    · cases hr
    obtain ⟨a, ha, hr⟩ := bdS_inr hr
    split at hr
    · cases hr
    obtain ⟨b, hb, hr⟩ := bdS_inr hr
    obtain ⟨c, hc, hr⟩ := bdS_inr hr
    obtain rfl := Sum.inr.inj hr
    exact t4
  split at hr
  · simp only [pPull] at hr
    obtain ⟨a, ha, hr⟩ := bdS_inr hr
    split at hr
    · obtain rfl := Sum.inr.inj hr
      exact t2
    · cases hr
  split at hr
  · simp only [pDanger] at hr
    obtain ⟨a, ha, hr⟩ := bdS_inr hr
    split at hr
    · cases hr
    · obtain rfl := Sum.inr.inj hr
      exact t2
  split at hr
  · simp only [pRepair] at hr
    obtain ⟨a, ha, hr⟩ := bdS_inr hr
    split at hr
    · obtain rfl := Sum.inr.inj hr
      exact t2
    · cases hr
  split at hr
  · simp only [pTicks] at hr
    obtain ⟨a, ha, hr⟩ := bdS_inr hr
    obtain rfl := Sum.inr.inj hr
    exact t2
  · cases hr
theorem pLoop_s (ip : Nat → Int32) (n F : Nat) (σ : Nat → Nat) (T : Tok) : pLoop ip n (F + 1) σ T = if T.1 = 0 then .inr σ else if T.1 = 3 then bdS (pLine ip n σ (nxT ip n T)) (fun r => pLoop ip n F r.1 r.2) else .inl (1, T.2.1) := rfl
theorem bdS_congr {α β : Type} {r : Ept α} {f g : α → Ept β} (h : ∀ a, r = .inr a → f a = g a) : bdS r f = bdS r g := by
  rcases r with e | a
  · rfl
  · exact h a rfl
theorem pLoop_loc (h : ∀ j, j < n → tx j = ip j) (F : Nat) : ∀ (σ : Nat → Nat) (T : Tok), T.2.2 ≤ n → pLoop tx n F σ T = pLoop ip n F σ T := by
  induction F with
  | zero => exact fun _ _ _ => rfl
  | succ F ih =>
    intro σ T hT
    rw [pLoop_s, pLoop_s, nxT_loc h hT, pLine_loc h (nxT_le ip hT), bdS_congr (g := fun r => pLoop ip n F r.1 r.2) (fun r hr => ih r.1 r.2 (pLine_tok (nxT_le ip hT) hr))]
theorem pText_loc (h : ∀ j, j < n → tx j = ip j) : pText tx n = pText ip n := by
  have t0 : ((0, 0, 0) : Tok).2.2 ≤ n := Nat.zero_le _
  have t1 := nxT_le ip t0
  simp only [pText]
  rw [nxT_loc h t0, kyM_loc h t1, nxT_loc h t1, pLoop_loc h _ _ _ (nxT_le ip t1)]
end LL
end LOC
