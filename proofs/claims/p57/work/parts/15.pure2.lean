section PURE2
theorem lvs1_lo {σ : Nat → Nat} {t b j : Nat} (h : j < 5) : lvs1 σ t b j = σ j := by
  simp only [lvs1]
  split
  · rw [upN_n (by omega), upN_n (by omega)]
  · rfl
theorem lvs2_lo {σ : Nat → Nat} {t b j : Nat} (h : j < 5) : lvs2 σ t b j = σ j := by
  simp only [lvs2]
  rw [upN_n (by omega), upN_n (by omega)]
theorem lvs_lo {σ : Nat → Nat} {t j : Nat} (h : j < 5) : lvs σ t j = σ j := by
  simp only [lvs]
  rw [lvs2_lo h, lvs1_lo h]
theorem mv1_lo {σ : Nat → Nat} {t j : Nat} (h : j < 5) : mv1 σ t j = σ j := by
  simp only [mv1]
  rw [upN_n (by omega)]
theorem lvs1_bd {M : Nat} {σ : Nat → Nat} (h : Bd M σ) (hM : M + 1 < 1073741824) {t : Nat} (ht : t < σ 2) {b : Nat} (hb : b < 10) : Bd (M + 1) (lvs1 σ t b) := by
  have h9 := h.2.2.2.2.1
  have h2 : σ (5 + 6 * b + 5) ≤ M := h.j (by omega) (by omega)
  have h3 : σ (65 + 5 * t + 0) ≤ M := h.j (by omega) (by omega)
  have h1 := h.mono (Nat.le_succ M) hM
  simp only [lvs1]
  split
  · exact (h1.up (by omega) (by omega) (fun u _ e => by omega)).up (by omega) (by omega) (fun u _ e => by omega)
  · exact h1
theorem lvs2_bd {M : Nat} {σ : Nat → Nat} (h : Bd M σ) (hM : M + 1 < 1073741824) {t : Nat} (ht : t < σ 2) {b : Nat} (hb : b < 10) : Bd (M + 1) (lvs2 σ t b) := by
  have h9 := h.2.2.2.2.1
  have h20 := h.1
  have h2 : σ (90 + 10 * t + b) ≤ M := h.j (by omega) (by omega)
  have h1 := h.mono (Nat.le_succ M) hM
  simp only [lvs2]
  refine (h1.up (by omega) ?_ (fun u _ e => by omega)).up (by omega) (by omega) (fun u hu e => ?_)
  · split <;> omega
  · rw [upN_n (by omega)] at hu
    omega
theorem lvs_bd {M : Nat} {σ : Nat → Nat} (h : Bd M σ) (hM : M + 2 < 1073741824) {t : Nat} (ht : t < σ 2) : Bd (M + 2) (lvs σ t) := by
  have h1 := h.p ht
  have h2 := h.2.2.2.1
  exact lvs2_bd (lvs1_bd h (by omega) ht (by omega)) (by omega) (by rw [lvs1_lo (by omega)]; exact ht) (by omega)
theorem mv1_bd {M : Nat} {σ : Nat → Nat} (h : Bd M σ) {t : Nat} (ht : t < σ 2) : Bd M (mv1 σ t) := by
  have h1 := h.p ht
  have h2 := h.2.2.2.1
  have h9 := h.2.2.2.2.1
  have h3 : σ (5 + 6 * σ (65 + 5 * t + 2) + 0) ≤ M := h.j (by omega) (by omega)
  simp only [mv1]
  refine h.up (by omega) ?_ (fun u _ e => by omega)
  split
  · exact h3
  · omega
theorem mv1_pl {σ : Nat → Nat} {t : Nat} : mv1 σ t (65 + 5 * t + 2) = σ (65 + 5 * t + 2) := by
  simp only [mv1]
  rw [upN_n (by omega)]
theorem lvs1_pl {σ : Nat → Nat} {t b u : Nat} (hb : b < 10) : lvs1 σ t b (65 + 5 * u + 2) = σ (65 + 5 * u + 2) := by
  simp only [lvs1]
  split
  · rw [upN_n (by omega), upN_n (by omega)]
  · rfl
theorem lvs_pl {σ : Nat → Nat} {t u : Nat} (ht : t < 5) (hu : u < 5) (hb : σ (65 + 5 * t + 2) < 10) : lvs σ t (65 + 5 * u + 2) = σ (65 + 5 * u + 2) := by
  simp only [lvs, lvs2]
  rw [upN_n (by omega), upN_n (by omega), lvs1_pl hb]
theorem mv2_lo {σ : Nat → Nat} {t n j : Nat} (h : j < 5) : mv2 σ t n j = σ j := by
  simp only [mv2]
  rw [upN_n (by omega), upN_n (by omega), upN_n (by omega)]
theorem mv2_bd {M : Nat} {σ : Nat → Nat} (h : Bd M σ) {t n : Nat} (ht : t < 5) (hn : n < σ 1) : Bd M (mv2 σ t n) := by
  have h20 := h.1
  have h1 := h.2.2.2.1
  refine ((h.up (by omega) (by omega) (fun u _ e => hn)).up (by omega) (by omega) (fun u _ e => by omega)).up (by omega) (by omega) (fun u _ e => by omega)
theorem mvS_lo {σ : Nat → Nat} {t j : Nat} (h : j < 5) : mvS σ t j = σ j := by
  simp only [mvS]
  split
  · split
    · rw [mv2_lo h, lvs_lo h, mv1_lo h]
    · rw [upN_n (by omega), mv1_lo h]
  · exact mv1_lo h
theorem mvS_bd {M : Nat} {σ : Nat → Nat} (h : Bd M σ) (hM : M + 2 < 1073741824) {t : Nat} (ht : t < σ 2) : Bd (M + 2) (mvS σ t) := by
  have h1 := h.p ht
  have h2 := h.2.2.2.1
  have h9 := h.2.2.2.2.1
  have hm := mv1_bd h ht
  have ht1 : t < mv1 σ t 2 := by rw [mv1_lo (by omega)]; exact ht
  have hl := lvs_bd hm hM ht1
  simp only [mvS]
  split
  · split
    · refine mv2_bd hl (by omega) ?_
      have hp : lvs (mv1 σ t) t (65 + 5 * t + 2) < lvs (mv1 σ t) t 1 := hl.p (by rw [lvs_lo (by omega)]; exact ht1)
      exact aft_lt hp
    · have h3 : mv1 σ t (65 + 5 * t + 4) ≤ M := hm.j (by omega) (by omega)
      exact (hm.mono (by omega) hM).up (by omega) (by omega) (fun u _ e => by omega)
  · exact hm.mono (by omega) hM
theorem mvLS_bd {M : Nat} : ∀ (n k : Nat) (σ : Nat → Nat), Bd M σ → M + 2 * n < 1073741824 → k + n ≤ σ 2 → Bd (M + 2 * n) (mvLS n k σ)
  | 0, _, _, h, _, _ => h
  | n + 1, k, σ, h, hM, hk => by
    have h1 := mvLS_bd (M := M + 2) n (k + 1) (mvS σ k) (mvS_bd h (by omega) (by omega)) (by omega) (by rw [mvS_lo (by omega)]; omega)
    have e : M + 2 * (n + 1) = M + 2 + 2 * n := by omega
    rw [e]
    exact h1
theorem mvLS_lo : ∀ (n k : Nat) (σ : Nat → Nat) {j : Nat}, j < 5 → mvLS n k σ j = σ j
  | 0, _, _, _, _ => rfl
  | n + 1, k, σ, j, h => by
    show mvLS n (k + 1) (mvS σ k) j = σ j
    rw [mvLS_lo n (k + 1) (mvS σ k) h, mvS_lo h]
theorem tkS_bd {M : Nat} {σ : Nat → Nat} (h : Bd M σ) (hM : M + 11 < 1073741824) : Bd (M + 11) (tkS σ) := by
  have h9 := h.2.2.2.2.1
  have h0 := h.2.2.1
  have h1 : Bd (M + 1) (upN σ 0 (σ 0 + 1)) := (h.mono (Nat.le_succ M) (by omega)).up0 (by omega)
  have h2 := mvLS_bd (σ 2) 0 _ h1 (by omega) (by rw [upN_n (by omega)]; omega)
  exact h2.mono (by omega) hM
theorem tkS_1 (σ : Nat → Nat) : tkS σ 1 = σ 1 := by
  simp only [tkS]
  rw [mvLS_lo _ _ _ (by omega), upN_n (by omega)]
theorem tkS_2 (σ : Nat → Nat) : tkS σ 2 = σ 2 := by
  simp only [tkS]
  rw [mvLS_lo _ _ _ (by omega), upN_n (by omega)]
theorem tkS_0 (σ : Nat → Nat) : tkS σ 0 = σ 0 + 1 := by
  simp only [tkS]
  rw [mvLS_lo _ _ _ (by omega), upN_s]
theorem psS_bd : ∀ (n : Nat) {M : Nat} (σ : Nat → Nat), Bd M σ → M + 11 * n < 1073741824 → Bd (M + 11 * n) (psS n σ)
  | 0, _, _, h, _ => h
  | n + 1, M, σ, h, hM => by
    have h1 := psS_bd n (tkS σ) (tkS_bd h (by omega)) (by omega)
    have e : M + 11 * (n + 1) = M + 11 + 11 * n := by omega
    rw [e]
    exact h1
theorem psS_2 : ∀ (n : Nat) (σ : Nat → Nat), psS n σ 2 = σ 2
  | 0, _ => rfl
  | n + 1, σ => (psS_2 n (tkS σ)).trans (tkS_2 σ)
theorem psS_1 : ∀ (n : Nat) (σ : Nat → Nat), psS n σ 1 = σ 1
  | 0, _ => rfl
  | n + 1, σ => (psS_1 n (tkS σ)).trans (tkS_1 σ)
theorem psS_0 : ∀ (n : Nat) (σ : Nat → Nat), psS n σ 0 = σ 0 + n
  | 0, _ => rfl
  | n + 1, σ => by
    show psS n (tkS σ) 0 = _
    rw [psS_0 n (tkS σ), tkS_0]
    omega
end PURE2
