section PURE10
theorem spd_pos {σ : Nat → Nat} (h : Sm σ) {t : Nat} (ht : t < σ 2) : 1 ≤ spd σ t ∧ spd σ t ≤ 5 := by
  have h1 := h.2.1 t ht
  have h2 := h.1 _ h1.2.2.2.2.1
  simp only [spd]
  split <;> omega
theorem mv1_sm {σ : Nat → Nat} (h : Sm σ) {t : Nat} (ht : t < σ 2) : Sm (mv1 σ t) := by
  have h5 := h.2.2.2.2.2
  refine Sm_pos (by omega) (fun _ => ?_) h
  split
  · exact Nat.le_refl _
  · omega
theorem mv1_at {σ : Nat → Nat} {t j : Nat} (h : j ≠ 65 + 5 * t + 3) : mv1 σ t j = σ j := by
  simp only [mv1]
  rw [upN_n h]
theorem mv1_sl {σ : Nat → Nat} (h : Sm σ) (hl : Sl σ) {t : Nat} (ht : t < σ 2) : Sl (mv1 σ t) := by
  intro u hu
  rw [mv1_lo (by omega)] at hu
  have h1 := h.2.1 u hu
  have h10 := h.2.2.2.2.1
  rw [mv1_at (j := 65 + 5 * u + 2) (by omega), mv1_at (by omega)]
  exact hl u hu
theorem lvs1_sm {σ : Nat → Nat} (h : Sm σ) {t b : Nat} (ht : t < σ 2) (hb : b < 10) (hl : σ (5 + 6 * b + 5) = 0) : Sm (lvs1 σ t b) := by
  have h5 := h.2.2.2.2.2
  have h1 := h.2.1 t ht
  simp only [lvs1]
  split
  · exact Sm_lost hb (by omega) (Sm_wag (by omega) (by omega) (by omega) h)
  · exact h
theorem lvs2_sm {σ : Nat → Nat} (h : Sm σ) {t b : Nat} (ht : t < σ 2) (hb : b < 10) : Sm (lvs2 σ t b) := by
  have h5 := h.2.2.2.2.2
  simp only [lvs2]
  refine Sm_psg hb (by omega) (by rw [upN_n (by omega)]; exact ht) (Sm_dep hb ?_ h)
  split <;> omega
theorem lvs_sm {σ : Nat → Nat} (h : Sm σ) (hl : Sl σ) {t : Nat} (ht : t < σ 2) : Sm (lvs σ t) := by
  have h1 := h.2.1 t ht
  have h10 := h.2.2.2.2.1
  exact lvs2_sm (lvs1_sm h ht (by omega) (hl t ht)) (by rw [lvs1_lo (by omega)]; exact ht) (by omega)
/-- a leaving train changes no other block's lost wagons -/
theorem lvs_lost {σ : Nat → Nat} (h : Sm σ) {t c : Nat} (ht : t < σ 2) (hc : c < 10) (hne : c ≠ σ (65 + 5 * t + 2)) : lvs σ t (5 + 6 * c + 5) = σ (5 + 6 * c + 5) := by
  have h1 := h.2.1 t ht
  have h10 := h.2.2.2.2.1
  have h5 := h.2.2.2.2.2
  simp only [lvs, lvs2]
  rw [upN_n (by omega), upN_n (by omega)]
  simp only [lvs1]
  split
  · rw [upN_n (by omega), upN_n (by omega)]
  · rfl
theorem mv2_sm {σ : Nat → Nat} (h : Sm σ) {t n : Nat} (ht : t < σ 2) (hn : n < σ 1) (h0 : trAt σ n = 0) : Sm (mv2 σ t n) := by
  have h10 := h.2.2.2.2.1
  exact Sm_clr (by omega) (by omega) (Sm_plc ht hn (trAt_0.mp h0) h)
theorem mv2_pl {σ : Nat → Nat} {t n u : Nat} (ht : t < 5) (hu : u < 5) (hn : n < 10) : mv2 σ t n (65 + 5 * u + 2) = if u = t then n else σ (65 + 5 * u + 2) := by
  simp only [mv2]
  rw [upN_n (by omega), upN_n (by omega), upN_if]
  by_cases q : u = t
  · rw [if_pos q, if_pos (by omega)]
  · rw [if_neg q, if_neg (by omega)]
theorem mv2_lost {σ : Nat → Nat} {t n c : Nat} (hc : c < 10) : mv2 σ t n (5 + 6 * c + 5) = σ (5 + 6 * c + 5) := by
  simp only [mv2]
  rw [upN_n (by omega), upN_n (by omega), upN_n (by omega)]
theorem occ_ext {σ τ : Nat → Nat} (h2 : τ 2 = σ 2) (hp : ∀ t, t < σ 2 → τ (65 + 5 * t + 2) = σ (65 + 5 * t + 2)) {b : Nat} (hl : τ (5 + 6 * b + 5) = σ (5 + 6 * b + 5)) : occ τ b = occ σ b := by
  simp only [occ]
  rw [trAt_ext h2 hp b, hl]
/-- where the train goes when it may -/
theorem mv_next {σ : Nat → Nat} (h : Sm σ) {t : Nat} (ht : t < σ 2) : aft (lvs (mv1 σ t) t) (lvs (mv1 σ t) t (65 + 5 * t + 2)) = aft σ (σ (65 + 5 * t + 2)) := by
  have h1 := h.2.1 t ht
  have h10 := h.2.2.2.2.1
  have h5 := h.2.2.2.2.2
  rw [lvs_pl (by omega) (by omega) (by rw [mv1_pl]; omega), mv1_pl]
  simp only [aft]
  rw [lvs_lo (by omega), mv1_lo (by omega)]
theorem mv_may {σ : Nat → Nat} (h : Sm σ) {t : Nat} (ht : t < σ 2) (hm : mayE (mv1 σ t) t = true) : occ σ (aft σ (σ (65 + 5 * t + 2))) = false ∧ σ (5 + 6 * aft σ (σ (65 + 5 * t + 2)) + 4) = 1 := by
  have h1 := h.2.1 t ht
  have h10 := h.2.2.2.2.1
  have h5 := h.2.2.2.2.2
  have ha := aft_lt h1.2.2.2.2.1
  have e : aft (mv1 σ t) (mv1 σ t (65 + 5 * t + 2)) = aft σ (σ (65 + 5 * t + 2)) := by
    rw [mv1_pl]
    simp only [aft]
    rw [mv1_lo (by omega)]
  simp only [mayE] at hm
  rw [e] at hm
  split at hm
  · rename_i q
    rw [mv1_at (by omega)] at q
    rw [occ_ext (mv1_lo (by omega)) (fun u hu => mv1_at (by omega)) (mv1_at (by omega))] at hm
    refine ⟨?_, q⟩
    cases hq : occ σ (aft σ (σ (65 + 5 * t + 2))) with
    | false => rfl
    | true => rw [hq] at hm; cases hm
  · cases hm
theorem mvS_inv {M : Nat} {σ : Nat → Nat} (h : Inv M σ) (hM : M + 2 < 1073741824) {t : Nat} (ht : t < σ 2) : Inv (M + 2) (mvS σ t) := by
  obtain ⟨hB, hs, hl⟩ := h
  refine ⟨mvS_bd hB hM ht, ?_⟩
  have h1 := hs.2.1 t ht
  have h10 := hs.2.2.2.2.1
  have h5 := hs.2.2.2.2.2
  have s1 := mv1_sm hs ht
  have l1 := mv1_sl hs hl ht
  have t1 : t < mv1 σ t 2 := by rw [mv1_lo (by omega)]; exact ht
  simp only [mvS]
  split
  · split
    · rename_i ha hm
      obtain ⟨ho, -⟩ := mv_may hs ht hm
      rw [mv_next hs ht]
      have hn := aft_lt h1.2.2.2.2.1
      have s2 := lvs_sm s1 l1 t1
      have e2 : lvs (mv1 σ t) t 2 = σ 2 := by rw [lvs_lo (by omega), mv1_lo (by omega)]
      have e1 : lvs (mv1 σ t) t 1 = σ 1 := by rw [lvs_lo (by omega), mv1_lo (by omega)]
      have epl : ∀ u, u < σ 2 → lvs (mv1 σ t) t (65 + 5 * u + 2) = σ (65 + 5 * u + 2) := by
        intro u hu
        rw [lvs_pl (by omega) (by omega) (by rw [mv1_pl]; omega), mv1_at (by omega)]
      have hn0 : trAt (lvs (mv1 σ t) t) (aft σ (σ (65 + 5 * t + 2))) = 0 := by
        rw [trAt_ext e2 epl]
        exact (occ_f ho).1
      refine ⟨mv2_sm s2 (by rw [e2]; exact ht) (by rw [e1]; exact hn) hn0, fun u hu => ?_⟩
      rw [mv2_lo (by omega), e2] at hu
      have hpu := hs.2.1 u hu
      rw [mv2_pl (by omega) (by omega) (by omega)]
      by_cases q : u = t
      · rw [if_pos q, mv2_lost (by omega), lvs_lost s1 t1 (by omega) (by
          rw [mv1_pl]
          intro z
          exact trAt_0.mp (occ_f ho).1 t ht z.symm), mv1_at (by omega)]
        exact (occ_f ho).2
      · rw [if_neg q, epl u hu, mv2_lost (by omega), lvs_lost s1 t1 (by omega) (by
          rw [mv1_pl]
          exact fun z => q (hs.2.2.1 u t hu ht z)), mv1_at (by omega)]
        exact hl u hu
    · refine ⟨Sm_wait (by omega) s1, fun u hu => ?_⟩
      rw [upN_n (by omega)] at hu
      have hpu := s1.2.1 u hu
      have h10' := s1.2.2.2.2.1
      rw [upN_n (j := 65 + 5 * u + 2) (by omega), upN_n (by omega)]
      exact l1 u hu
  · exact ⟨s1, l1⟩
theorem mvLS_inv {M : Nat} : ∀ (n k : Nat) (σ : Nat → Nat), Inv M σ → M + 2 * n < 1073741824 → k + n ≤ σ 2 → Inv (M + 2 * n) (mvLS n k σ)
  | 0, _, _, h, _, _ => h
  | n + 1, k, σ, h, hM, hk => by
    have h1 := mvLS_inv (M := M + 2) n (k + 1) (mvS σ k) (mvS_inv h (by omega) (by omega)) (by omega) (by rw [mvS_lo (by omega)]; omega)
    have e : M + 2 * (n + 1) = M + 2 + 2 * n := by omega
    rw [e]
    exact h1
theorem Inv.mono {M N : Nat} {σ : Nat → Nat} (h : Inv M σ) (h1 : M ≤ N) (h2 : N < 1073741824) : Inv N σ := ⟨h.1.mono h1 h2, h.2⟩
theorem Inv.tick {M : Nat} {σ : Nat → Nat} (h : Inv M σ) (hM : M + 1 < 1073741824) : Inv (M + 1) (upN σ 0 (σ 0 + 1)) := by
  obtain ⟨hB, hs, hl⟩ := h
  refine ⟨(hB.mono (Nat.le_succ M) hM).up0 (by have := hB.2.2.1; omega), Sm_0 hs, fun u hu => ?_⟩
  rw [upN_n (by omega)] at hu
  rw [upN_n (j := 65 + 5 * u + 2) (by omega), upN_n (by omega)]
  exact hl u hu
theorem tkS_inv {M : Nat} {σ : Nat → Nat} (h : Inv M σ) (hM : M + 11 < 1073741824) : Inv (M + 11) (tkS σ) := by
  have h9 := h.1.2.2.2.2.1
  have h2 := mvLS_inv (σ 2) 0 _ (h.tick (by omega)) (by omega) (by rw [upN_n (by omega)]; omega)
  exact h2.mono (by omega) hM
theorem psS_inv : ∀ (n : Nat) {M : Nat} (σ : Nat → Nat), Inv M σ → M + 11 * n < 1073741824 → Inv (M + 11 * n) (psS n σ)
  | 0, _, _, h, _ => h
  | n + 1, M, σ, h, hM => by
    have h1 := psS_inv n (tkS σ) (tkS_inv h (by omega)) (by omega)
    have e : M + 11 * (n + 1) = M + 11 + 11 * n := by omega
    rw [e]
    exact h1
end PURE10
