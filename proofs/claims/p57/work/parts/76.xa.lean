section QA
theorem sumL_one {f g : Nat → Nat} {i : Nat} : ∀ n, i < n → (∀ k, k < n → k ≠ i → g k = f k) → sumL g n + f i = sumL f n + g i
  | 0, hi, _ => absurd hi (Nat.not_lt_zero i)
  | n + 1, hi, h => by
    show sumL g n + g n + f i = sumL f n + f n + g i
    rcases Nat.lt_or_ge i n with q | q
    · have h1 := sumL_one (f := f) (g := g) n q (fun k hk hne => h k (by omega) hne)
      have h2 := h n (by omega) (by omega)
      omega
    · have e : i = n := by omega
      subst e
      have h1 := sumL_congr (f := g) (g := f) i (fun k hk => h k (by omega) (by omega))
      omega
theorem sumL_z {f : Nat → Nat} : ∀ n, (∀ k, k < n → f k = 0) → sumL f n = 0
  | 0, _ => rfl
  | n + 1, h => by
    show sumL f n + f n = 0
    rw [sumL_z n (fun k hk => h k (by omega)), h n (by omega)]
theorem sumL_mem {f : Nat → Nat} {i : Nat} : ∀ n, i < n → f i ≤ sumL f n
  | 0, hi => absurd hi (Nat.not_lt_zero i)
  | n + 1, hi => by
    show f i ≤ sumL f n + f n
    rcases Nat.lt_or_ge i n with q | q
    · have := sumL_mem (f := f) n q
      omega
    · have e : i = n := by omega
      subst e
      omega
/-- what a railway holds of wagons -/
def WL (σ : Nat → Nat) : Nat := sumL (fun k => σ (65 + 5 * k + 0)) (σ 2) + sumL (fun k => σ (5 + 6 * k + 5)) (σ 1) + σ 3
/-- no wagon is made or lost -/
def Bal (σ : Nat → Nat) : Prop := WL σ = σ 4
/-- all passages -/
def PT (σ : Nat → Nat) : Nat := sumL (fun b => sumL (fun t => σ (90 + 10 * t + b)) (σ 2)) (σ 1)
theorem WL_ext {σ τ : Nat → Nat} (h : ∀ j, j < 5 → τ j = σ j) (hw : ∀ k, k < σ 2 → τ (65 + 5 * k + 0) = σ (65 + 5 * k + 0)) (hl : ∀ k, k < σ 1 → τ (5 + 6 * k + 5) = σ (5 + 6 * k + 5)) : WL τ = WL σ := by
  simp only [WL]
  rw [h 1 (by decide), h 2 (by decide), h 3 (by decide), sumL_congr (σ 2) hw, sumL_congr (σ 1) hl]
theorem PT_ext {σ τ : Nat → Nat} (h1 : τ 1 = σ 1) (h2 : τ 2 = σ 2) (hp : ∀ t b, t < σ 2 → b < σ 1 → τ (90 + 10 * t + b) = σ (90 + 10 * t + b)) : PT τ = PT σ := by
  simp only [PT]
  rw [h1, h2]
  exact sumL_congr (σ 1) (fun b hb => sumL_congr (σ 2) (fun t ht => hp t b ht hb))
theorem mvS_no {σ : Nat → Nat} {t j : Nat} (h : mvE σ t = false) (h3 : j ≠ 65 + 5 * t + 3) (h4 : j ≠ 65 + 5 * t + 4) : mvS σ t j = σ j := by
  simp only [mvE, Bool.and_eq_false_iff] at h
  simp only [mvS]
  split
  · rename_i ha
    rcases h with h | h
    · rw [h] at ha
      cases ha
    · rw [if_neg (by rw [h]; decide), upN_n h4, mv1_at h3]
  · rw [mv1_at h3]
theorem mvS_yes {σ : Nat → Nat} (hS : Sm σ) {t : Nat} (ht : t < σ 2) (h : mvE σ t = true) : mvS σ t = mv2 (lvs (mv1 σ t) t) t (aft σ (σ (65 + 5 * t + 2))) := by
  simp only [mvE, Bool.and_eq_true] at h
  simp only [mvS]
  rw [if_pos h.1, if_pos h.2, mv_next hS ht]
theorem lvs_q {σ : Nat → Nat} {t j : Nat} (h1 : j ≠ 5 + 6 * σ (65 + 5 * t + 2) + 1) (h2 : j ≠ 90 + 10 * t + σ (65 + 5 * t + 2)) : lvs σ t j = lvs1 σ t (σ (65 + 5 * t + 2)) j := by
  simp only [lvs, lvs2]
  rw [upN_n h2, upN_n h1]
theorem lvs1_q {σ : Nat → Nat} {t b j : Nat} (h1 : j ≠ 65 + 5 * t + 0) (h2 : j ≠ 5 + 6 * b + 5) : lvs1 σ t b j = σ j := by
  simp only [lvs1]
  split
  · rw [upN_n h2, upN_n h1]
  · rfl
theorem mvS_WL {σ : Nat → Nat} (hS : Sm σ) {t : Nat} (ht : t < σ 2) : WL (mvS σ t) = WL σ := by
  have hb := (hS.2.1 t ht).2.2.2.2.1
  have h10 := hS.2.2.2.2.1
  have h5 := hS.2.2.2.2.2
  cases hE : mvE σ t with
  | false => exact WL_ext (fun j hj => mvS_no hE (by omega) (by omega)) (fun k hk => mvS_no hE (by omega) (by omega)) (fun k hk => mvS_no hE (by omega) (by omega))
  | true =>
    have ha := aft_lt hb
    have hr : ∀ j, j ≠ 65 + 5 * t + 2 → j ≠ 65 + 5 * t + 3 → j ≠ 5 + 6 * aft σ (σ (65 + 5 * t + 2)) + 4 → j ≠ 5 + 6 * σ (65 + 5 * t + 2) + 1 → j ≠ 90 + 10 * t + σ (65 + 5 * t + 2) → mvS σ t j = lvs1 (mv1 σ t) t (σ (65 + 5 * t + 2)) j := by
      intro j k1 k2 k3 k4 k5
      rw [mvS_yes hS ht hE]
      simp only [mv2]
      rw [upN_n k3, upN_n k2, upN_n k1, lvs_q (by rw [mv1_pl]; exact k4) (by rw [mv1_pl]; exact k5), mv1_pl]
    by_cases hc : 7 ≤ mv1 σ t (5 + 6 * σ (65 + 5 * t + 2) + 1) ∧ 3 ≤ spd (mv1 σ t) t ∧ 1 < mv1 σ t (65 + 5 * t + 0)
    · have hv : ∀ j, j ≠ 65 + 5 * t + 2 → j ≠ 65 + 5 * t + 3 → j ≠ 5 + 6 * aft σ (σ (65 + 5 * t + 2)) + 4 → j ≠ 5 + 6 * σ (65 + 5 * t + 2) + 1 → j ≠ 90 + 10 * t + σ (65 + 5 * t + 2) → mvS σ t j = if j = 5 + 6 * σ (65 + 5 * t + 2) + 5 then σ (5 + 6 * σ (65 + 5 * t + 2) + 5) + 1 else if j = 65 + 5 * t + 0 then σ (65 + 5 * t + 0) - 1 else σ j := by
        intro j k1 k2 k3 k4 k5
        rw [hr j k1 k2 k3 k4 k5]
        simp only [lvs1]
        rw [if_pos hc, upN_if, upN_if, mv1_at (by omega), mv1_at (by omega)]
        split
        · rfl
        split
        · rfl
        · rw [mv1_at k2]
      rw [mv1_at (by omega)] at hc
      have e1 := sumL_one (f := fun k => σ (65 + 5 * k + 0)) (g := fun k => mvS σ t (65 + 5 * k + 0)) (i := t) (σ 2) ht (fun k hk hne => by
        show mvS σ t (65 + 5 * k + 0) = σ (65 + 5 * k + 0)
        rw [hv _ (by omega) (by omega) (by omega) (by omega) (by omega), if_neg (by omega), if_neg (by omega)])
      have e2 := sumL_one (f := fun k => σ (5 + 6 * k + 5)) (g := fun k => mvS σ t (5 + 6 * k + 5)) (i := σ (65 + 5 * t + 2)) (σ 1) hb (fun k hk hne => by
        show mvS σ t (5 + 6 * k + 5) = σ (5 + 6 * k + 5)
        rw [hv _ (by omega) (by omega) (by omega) (by omega) (by omega), if_neg (by omega), if_neg (by omega)])
      have e3 : mvS σ t (65 + 5 * t + 0) = σ (65 + 5 * t + 0) - 1 := by
        rw [hv _ (by omega) (by omega) (by omega) (by omega) (by omega), if_neg (by omega), if_pos rfl]
      have e4 : mvS σ t (5 + 6 * σ (65 + 5 * t + 2) + 5) = σ (5 + 6 * σ (65 + 5 * t + 2) + 5) + 1 := by
        rw [hv _ (by omega) (by omega) (by omega) (by omega) (by omega), if_pos rfl]
      have hw : 1 < σ (65 + 5 * t + 0) := by
        have := hc.2.2
        rwa [mv1_at (by omega)] at this
      simp only [WL]
      rw [mvS_lo (by decide), mvS_lo (by decide), mvS_lo (by decide)]
      rw [e3] at e1
      rw [e4] at e2
      omega
    · have hv : ∀ j, j ≠ 65 + 5 * t + 2 → j ≠ 65 + 5 * t + 3 → j ≠ 5 + 6 * aft σ (σ (65 + 5 * t + 2)) + 4 → j ≠ 5 + 6 * σ (65 + 5 * t + 2) + 1 → j ≠ 90 + 10 * t + σ (65 + 5 * t + 2) → mvS σ t j = σ j := by
        intro j k1 k2 k3 k4 k5
        rw [hr j k1 k2 k3 k4 k5]
        simp only [lvs1]
        rw [if_neg hc, mv1_at k2]
      exact WL_ext (fun j hj => mvS_lo hj) (fun k hk => hv _ (by omega) (by omega) (by omega) (by omega) (by omega)) (fun k hk => hv _ (by omega) (by omega) (by omega) (by omega) (by omega))
theorem mvS_PT {σ : Nat → Nat} (hS : Sm σ) {t : Nat} (ht : t < σ 2) : PT (mvS σ t) = PT σ + (mvE σ t).toNat := by
  have hb := (hS.2.1 t ht).2.2.2.2.1
  have h10 := hS.2.2.2.2.1
  have h5 := hS.2.2.2.2.2
  cases hE : mvE σ t with
  | false => exact PT_ext (mvS_lo (by decide)) (mvS_lo (by decide)) (fun u b hu hb => mvS_no hE (by omega) (by omega))
  | true =>
    have ha := aft_lt hb
    have hv : ∀ u b, u < σ 2 → b < σ 1 → mvS σ t (90 + 10 * u + b) = if u = t ∧ b = σ (65 + 5 * t + 2) then σ (90 + 10 * t + σ (65 + 5 * t + 2)) + 1 else σ (90 + 10 * u + b) := by
      intro u b hu hb2
      rw [mvS_yes hS ht hE]
      simp only [mv2, lvs, lvs2]
      rw [mv1_pl, upN_n (by omega), upN_n (by omega), upN_n (by omega), upN_if]
      by_cases q : u = t ∧ b = σ (65 + 5 * t + 2)
      · rw [if_pos q, if_pos (by omega), lvs1_q (by omega) (by omega), mv1_at (by omega)]
      · rw [if_neg q, if_neg (by omega), upN_n (by omega), lvs1_q (by omega) (by omega), mv1_at (by omega)]
    have e1 := sumL_one (f := fun b => sumL (fun u => σ (90 + 10 * u + b)) (σ 2)) (g := fun b => sumL (fun u => mvS σ t (90 + 10 * u + b)) (σ 2)) (i := σ (65 + 5 * t + 2)) (σ 1) hb (fun k hk hne => by
      refine sumL_congr (σ 2) (fun u hu => ?_)
      rw [hv u k hu hk, if_neg (fun q => hne q.2)])
    have e2 := sumL_one (f := fun u => σ (90 + 10 * u + σ (65 + 5 * t + 2))) (g := fun u => mvS σ t (90 + 10 * u + σ (65 + 5 * t + 2))) (i := t) (σ 2) ht (fun u hu hne => by
      show mvS σ t (90 + 10 * u + σ (65 + 5 * t + 2)) = σ (90 + 10 * u + σ (65 + 5 * t + 2))
      rw [hv u _ hu hb, if_neg (fun q => hne q.1)])
    rw [hv t _ ht hb, if_pos ⟨rfl, rfl⟩] at e2
    simp only [PT]
    rw [mvS_lo (by decide), mvS_lo (by decide)]
    show _ = _ + 1
    omega
theorem mvS_wait (σ : Nat → Nat) (t u : Nat) (hu : u < 5) (ht : t < 5) (hS : Sm σ) (h2 : t < σ 2) : σ (65 + 5 * u + 4) ≤ mvS σ t (65 + 5 * u + 4) := by
  have hb := (hS.2.1 t h2).2.2.2.2.1
  have h10 := hS.2.2.2.2.1
  have ha := aft_lt hb
  cases hE : mvE σ t with
  | false =>
    by_cases q : u = t
    · subst q
      simp only [mvE, Bool.and_eq_false_iff] at hE
      simp only [mvS]
      split
      · rename_i ha
        rcases hE with h | h
        · rw [h] at ha
          cases ha
        · rw [if_neg (by rw [h]; decide), upN_s, mv1_at (by omega)]
          omega
      · rw [mv1_at (by omega)]
        exact Nat.le_refl _
    · rw [mvS_no hE (by omega) (by omega)]
      exact Nat.le_refl _
  | true =>
    rw [mvS_yes hS h2 hE]
    simp only [mv2]
    rw [upN_n (by omega), upN_n (by omega), upN_n (by omega), lvs_q (by rw [mv1_pl]; omega) (by rw [mv1_pl]; omega), lvs1_q (by omega) (by rw [mv1_pl]; omega), mv1_at (by omega)]
    exact Nat.le_refl _
theorem mvLS_q {M : Nat} : ∀ (n k : Nat) (σ : Nat → Nat), Inv M σ → M + 2 * n < 1073741824 → k + n ≤ σ 2 → WL (mvLS n k σ) = WL σ ∧ PT (mvLS n k σ) = PT σ + mvLE n k σ ∧ ∀ u, u < 5 → σ (65 + 5 * u + 4) ≤ mvLS n k σ (65 + 5 * u + 4)
  | 0, k, σ, _, _, _ => ⟨rfl, rfl, fun _ _ => Nat.le_refl _⟩
  | n + 1, k, σ, hI, hM, hk => by
    have ht : k < σ 2 := by omega
    have h5 := hI.2.1.2.2.2.2.2
    obtain ⟨a1, a2, a3⟩ := mvLS_q (M := M + 2) n (k + 1) (mvS σ k) (mvS_inv hI (by omega) ht) (by omega) (by rw [mvS_lo (by decide)]; omega)
    refine ⟨a1.trans (mvS_WL hI.2.1 ht), ?_, fun u hu => Nat.le_trans (mvS_wait σ k u hu (by omega) hI.2.1 ht) (a3 u hu)⟩
    show PT (mvLS n (k + 1) (mvS σ k)) = PT σ + ((mvE σ k).toNat + mvLE n (k + 1) (mvS σ k))
    rw [a2, mvS_PT hI.2.1 ht]
    omega
theorem tkS_q {M : Nat} {σ : Nat → Nat} (hI : Inv M σ) (hM : M + 11 < 1073741824) : WL (tkS σ) = WL σ ∧ PT (tkS σ) = PT σ + tkE σ ∧ ∀ u, u < 5 → σ (65 + 5 * u + 4) ≤ tkS σ (65 + 5 * u + 4) := by
  have h5 := hI.2.1.2.2.2.2.2
  obtain ⟨a1, a2, a3⟩ := mvLS_q (M := M + 1) (σ 2) 0 (upN σ 0 (σ 0 + 1)) (hI.tick (by omega)) (by omega) (by rw [upN_n (by decide)]; omega)
  refine ⟨a1.trans ?_, ?_, fun u hu => ?_⟩
  · simp only [WL]
    rw [upN_n (by decide), upN_n (by decide), upN_n (by decide), sumL_congr (σ 2) (fun k hk => show upN σ 0 (σ 0 + 1) (65 + 5 * k + 0) = σ (65 + 5 * k + 0) from upN_n (by omega)), sumL_congr (σ 1) (fun k hk => show upN σ 0 (σ 0 + 1) (5 + 6 * k + 5) = σ (5 + 6 * k + 5) from upN_n (by omega))]
  · show PT (mvLS (σ 2) 0 (upN σ 0 (σ 0 + 1))) = PT σ + mvLE (σ 2) 0 (upN σ 0 (σ 0 + 1))
    rw [a2, PT_ext (σ := σ) (τ := upN σ 0 (σ 0 + 1)) (upN_n (by decide)) (upN_n (by decide)) (fun t b _ _ => upN_n (by omega))]
  · have := a3 u hu
    rwa [upN_n (by omega)] at this
theorem psS_q : ∀ (n : Nat) {M : Nat} (σ : Nat → Nat), Inv M σ → M + 11 * n < 1073741824 → WL (psS n σ) = WL σ ∧ PT (psS n σ) = PT σ + psE n σ ∧ ∀ u, u < 5 → σ (65 + 5 * u + 4) ≤ psS n σ (65 + 5 * u + 4)
  | 0, _, σ, _, _ => ⟨rfl, rfl, fun _ _ => Nat.le_refl _⟩
  | n + 1, M, σ, hI, hM => by
    obtain ⟨b1, b2, b3⟩ := tkS_q hI (by omega)
    obtain ⟨a1, a2, a3⟩ := psS_q n (tkS σ) (tkS_inv hI (by omega)) (by omega)
    refine ⟨a1.trans b1, ?_, fun u hu => Nat.le_trans (b3 u hu) (a3 u hu)⟩
    show PT (psS n (tkS σ)) = PT σ + (tkE σ + psE n (tkS σ))
    rw [a2, b2]
    omega
theorem psS_add : ∀ (a b : Nat) (σ : Nat → Nat), psS (a + b) σ = psS b (psS a σ)
  | 0, b, σ => by rw [Nat.zero_add]; rfl
  | a + 1, b, σ => by
    rw [Nat.add_right_comm]
    exact psS_add a b (tkS σ)
/-- the wait foretold: c ticks on, the first at which the waits are more; or none within the 200 -/
theorem wtL_q (t w0 : Nat) : ∀ (n : Nat) (σ : Nat → Nat) (c : Nat), ∃ k, k ≤ n ∧ wtL w0 t n σ c = (psS k σ, c + k) ∧ (∀ i, i < k → psS i σ (65 + 5 * t + 4) = w0) ∧ (psS k σ (65 + 5 * t + 4) ≠ w0 ∨ k = n)
  | 0, σ, c => ⟨0, Nat.le_refl _, rfl, fun i hi => absurd hi (Nat.not_lt_zero i), Or.inr rfl⟩
  | n + 1, σ, c => by
    simp only [wtL]
    by_cases q : σ (65 + 5 * t + 4) = w0
    · obtain ⟨k, k1, k2, k3, k4⟩ := wtL_q t w0 n (tkS σ) (c + 1)
      refine ⟨k + 1, by omega, ?_, fun i hi => ?_, ?_⟩
      · rw [if_pos q, k2, Nat.add_assoc, Nat.add_comm 1 k]
        rfl
      · cases i with
        | zero => exact q
        | succ i => exact k3 i (by omega)
      · rcases k4 with k4 | k4
        · exact Or.inl k4
        · exact Or.inr (by omega)
    · rw [if_neg q]
      exact ⟨0, Nat.zero_le _, rfl, fun i hi => absurd hi (Nat.not_lt_zero i), Or.inl q⟩
/-- waits that grow within n ticks are those foretold -/
theorem wtT_q {M : Nat} {σ : Nat → Nat} {t n : Nat} (hI : Inv M σ) (hM : M + 11 * 200 < 1073741824) (ht : t < σ 2) (hn : n ≤ 200) : σ (65 + 5 * t + 4) < psS n σ (65 + 5 * t + 4) ↔ 2 ≤ wtT σ t ∧ wtT σ t ≤ n + 1 := by
  have h5 := hI.2.1.2.2.2.2.2
  obtain ⟨k, k1, k2, k3, k4⟩ := wtL_q t (σ (65 + 5 * t + 4)) 200 σ 0
  have mono : ∀ a b, a ≤ b → b ≤ 200 → psS a σ (65 + 5 * t + 4) ≤ psS b σ (65 + 5 * t + 4) := by
    intro a b hab hb
    have h := (psS_q (b - a) (M := M + 11 * a) (psS a σ) (psS_inv a σ hI (by omega)) (by omega)).2.2 t (by omega)
    rwa [← psS_add, show a + (b - a) = b by omega] at h
  have e : wtR σ t = (psS k σ, k) := by
    show wtL _ t 200 σ 0 = _
    rw [k2, Nat.zero_add]
  simp only [wtT, e]
  have h0 := mono 0 k (Nat.zero_le _) k1
  have h00 : psS 0 σ (65 + 5 * t + 4) = σ (65 + 5 * t + 4) := rfl
  have hk1 : σ (65 + 5 * t + 4) < psS k σ (65 + 5 * t + 4) → 1 ≤ k := by
    intro q
    rcases Nat.eq_zero_or_pos k with z | z
    · subst z
      exact absurd q (Nat.lt_irrefl _)
    · exact z
  by_cases q : σ (65 + 5 * t + 4) < psS k σ (65 + 5 * t + 4)
  · rw [if_pos q]
    have := hk1 q
    constructor
    · intro h
      refine ⟨by omega, ?_⟩
      rcases Nat.lt_or_ge n k with z | z
      · have := k3 n z
        omega
      · omega
    · intro h
      have := mono k n (by omega) hn
      omega
  · rw [if_neg q]
    constructor
    · intro h
      exfalso
      have k4' : k = 200 := by
        rcases k4 with k4 | k4
        · omega
        · exact k4
      have := mono n k (by omega) k1
      omega
    · intro h
      omega
end QA
