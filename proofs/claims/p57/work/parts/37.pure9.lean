section PURE9
/-- what every state is, but for the lost wagons where trains stand -/
def Sm (σ : Nat → Nat) : Prop :=
  (∀ c, c < σ 1 → 1 ≤ σ (5 + 6 * c + 0) ∧ σ (5 + 6 * c + 0) ≤ 20 ∧ σ (5 + 6 * c + 1) ≤ 9 ∧ 1 ≤ σ (5 + 6 * c + 2) ∧ σ (5 + 6 * c + 2) ≤ 5 ∧ σ (5 + 6 * c + 3) ≤ 1 ∧ σ (5 + 6 * c + 4) ≤ 1 ∧ σ (5 + 6 * c + 5) ≤ 1 ∧ (σ (5 + 6 * c + 3) = 0 → σ (5 + 6 * c + 2) = 5)) ∧
  (∀ t, t < σ 2 → 1 ≤ σ (65 + 5 * t + 0) ∧ σ (65 + 5 * t + 0) ≤ 12 ∧ 1 ≤ σ (65 + 5 * t + 1) ∧ σ (65 + 5 * t + 1) ≤ 5 ∧ σ (65 + 5 * t + 2) < σ 1 ∧ σ (65 + 5 * t + 3) ≤ σ (5 + 6 * σ (65 + 5 * t + 2) + 0)) ∧
  (∀ t u, t < σ 2 → u < σ 2 → σ (65 + 5 * t + 2) = σ (65 + 5 * u + 2) → t = u) ∧
  (∀ t c, σ 2 ≤ t → t < 5 → c < 10 → σ (90 + 10 * t + c) = 0) ∧ σ 1 ≤ 10 ∧ σ 2 ≤ 5
/-- no lost wagon where a train stands -/
def Sl (σ : Nat → Nat) : Prop := ∀ t, t < σ 2 → σ (5 + 6 * σ (65 + 5 * t + 2) + 5) = 0
def Inv (M : Nat) (σ : Nat → Nat) : Prop := Bd M σ ∧ Sm σ ∧ Sl σ
theorem Sm_dep {σ : Nat → Nat} {b x : Nat} (hb : b < 10) (hx : x ≤ 9) (h : Sm σ) : Sm (upN σ (5 + 6 * b + 1) x) := by
  obtain ⟨hA, hB, hD, hE, h10, h5⟩ := h
  have e1 : upN σ (5 + 6 * b + 1) x 1 = σ 1 := upN_n (by omega)
  have e2 : upN σ (5 + 6 * b + 1) x 2 = σ 2 := upN_n (by omega)
  refine ⟨fun c hc => ?_, fun t ht => ?_, fun t u ht hu q => ?_, fun t c h1 h2 h3 => ?_, by rw [e1]; exact h10, by rw [e2]; exact h5⟩
  · rw [e1] at hc
    have h9 := hA c hc
    rw [upN_n (j := 5 + 6 * c + 0) (by omega), upN_n (j := 5 + 6 * c + 2) (by omega), upN_n (j := 5 + 6 * c + 3) (by omega), upN_n (j := 5 + 6 * c + 4) (by omega), upN_n (j := 5 + 6 * c + 5) (by omega), upN_if (j := 5 + 6 * c + 1)]
    split
    · omega
    · exact h9
  · rw [e2] at ht
    have h9 := hB t ht
    rw [e1, upN_n (j := 65 + 5 * t + 0) (by omega), upN_n (j := 65 + 5 * t + 1) (by omega), upN_n (j := 65 + 5 * t + 2) (by omega), upN_n (j := 65 + 5 * t + 3) (by omega), upN_n (j := 5 + 6 * σ (65 + 5 * t + 2) + 0) (by omega)]
    exact h9
  · rw [e2] at ht hu
    rw [upN_n (by omega), upN_n (by omega)] at q
    exact hD t u ht hu q
  · rw [e2] at h1
    rw [upN_n (by omega)]
    exact hE t c h1 h2 h3
theorem Sm_clr {σ : Nat → Nat} {b x : Nat} (hb : b < 10) (hx : x ≤ 1) (h : Sm σ) : Sm (upN σ (5 + 6 * b + 4) x) := by
  obtain ⟨hA, hB, hD, hE, h10, h5⟩ := h
  have e1 : upN σ (5 + 6 * b + 4) x 1 = σ 1 := upN_n (by omega)
  have e2 : upN σ (5 + 6 * b + 4) x 2 = σ 2 := upN_n (by omega)
  refine ⟨fun c hc => ?_, fun t ht => ?_, fun t u ht hu q => ?_, fun t c h1 h2 h3 => ?_, by rw [e1]; exact h10, by rw [e2]; exact h5⟩
  · rw [e1] at hc
    have h9 := hA c hc
    rw [upN_n (j := 5 + 6 * c + 0) (by omega), upN_n (j := 5 + 6 * c + 1) (by omega), upN_n (j := 5 + 6 * c + 2) (by omega), upN_n (j := 5 + 6 * c + 3) (by omega), upN_n (j := 5 + 6 * c + 5) (by omega), upN_if (j := 5 + 6 * c + 4)]
    split
    · omega
    · exact h9
  · rw [e2] at ht
    have h9 := hB t ht
    rw [e1, upN_n (j := 65 + 5 * t + 0) (by omega), upN_n (j := 65 + 5 * t + 1) (by omega), upN_n (j := 65 + 5 * t + 2) (by omega), upN_n (j := 65 + 5 * t + 3) (by omega), upN_n (j := 5 + 6 * σ (65 + 5 * t + 2) + 0) (by omega)]
    exact h9
  · rw [e2] at ht hu
    rw [upN_n (by omega), upN_n (by omega)] at q
    exact hD t u ht hu q
  · rw [e2] at h1
    rw [upN_n (by omega)]
    exact hE t c h1 h2 h3
theorem Sm_lost {σ : Nat → Nat} {b x : Nat} (hb : b < 10) (hx : x ≤ 1) (h : Sm σ) : Sm (upN σ (5 + 6 * b + 5) x) := by
  obtain ⟨hA, hB, hD, hE, h10, h5⟩ := h
  have e1 : upN σ (5 + 6 * b + 5) x 1 = σ 1 := upN_n (by omega)
  have e2 : upN σ (5 + 6 * b + 5) x 2 = σ 2 := upN_n (by omega)
  refine ⟨fun c hc => ?_, fun t ht => ?_, fun t u ht hu q => ?_, fun t c h1 h2 h3 => ?_, by rw [e1]; exact h10, by rw [e2]; exact h5⟩
  · rw [e1] at hc
    have h9 := hA c hc
    rw [upN_n (j := 5 + 6 * c + 0) (by omega), upN_n (j := 5 + 6 * c + 1) (by omega), upN_n (j := 5 + 6 * c + 2) (by omega), upN_n (j := 5 + 6 * c + 3) (by omega), upN_n (j := 5 + 6 * c + 4) (by omega), upN_if (j := 5 + 6 * c + 5)]
    split
    · omega
    · exact h9
  · rw [e2] at ht
    have h9 := hB t ht
    rw [e1, upN_n (j := 65 + 5 * t + 0) (by omega), upN_n (j := 65 + 5 * t + 1) (by omega), upN_n (j := 65 + 5 * t + 2) (by omega), upN_n (j := 65 + 5 * t + 3) (by omega), upN_n (j := 5 + 6 * σ (65 + 5 * t + 2) + 0) (by omega)]
    exact h9
  · rw [e2] at ht hu
    rw [upN_n (by omega), upN_n (by omega)] at q
    exact hD t u ht hu q
  · rw [e2] at h1
    rw [upN_n (by omega)]
    exact hE t c h1 h2 h3
theorem Sm_wag {σ : Nat → Nat} {a x : Nat} (ha : a < 5) (h1x : 1 ≤ x) (hx : x ≤ 12) (h : Sm σ) : Sm (upN σ (65 + 5 * a + 0) x) := by
  obtain ⟨hA, hB, hD, hE, h10, h5⟩ := h
  have e1 : upN σ (65 + 5 * a + 0) x 1 = σ 1 := upN_n (by omega)
  have e2 : upN σ (65 + 5 * a + 0) x 2 = σ 2 := upN_n (by omega)
  refine ⟨fun c hc => ?_, fun t ht => ?_, fun t u ht hu q => ?_, fun t c h1 h2 h3 => ?_, by rw [e1]; exact h10, by rw [e2]; exact h5⟩
  · rw [e1] at hc
    have h9 := hA c hc
    rw [upN_n (j := 5 + 6 * c + 0) (by omega), upN_n (j := 5 + 6 * c + 1) (by omega), upN_n (j := 5 + 6 * c + 2) (by omega), upN_n (j := 5 + 6 * c + 3) (by omega), upN_n (j := 5 + 6 * c + 4) (by omega), upN_n (j := 5 + 6 * c + 5) (by omega)]
    exact h9
  · rw [e2] at ht
    have h9 := hB t ht
    rw [e1, upN_n (j := 65 + 5 * t + 1) (by omega), upN_n (j := 65 + 5 * t + 2) (by omega), upN_n (j := 65 + 5 * t + 3) (by omega), upN_n (j := 5 + 6 * σ (65 + 5 * t + 2) + 0) (by omega), upN_if (j := 65 + 5 * t + 0)]
    split
    · omega
    · exact h9
  · rw [e2] at ht hu
    rw [upN_n (by omega), upN_n (by omega)] at q
    exact hD t u ht hu q
  · rw [e2] at h1
    rw [upN_n (by omega)]
    exact hE t c h1 h2 h3
theorem Sm_top {σ : Nat → Nat} {a x : Nat} (ha : a < 5) (h1x : 1 ≤ x) (hx : x ≤ 5) (h : Sm σ) : Sm (upN σ (65 + 5 * a + 1) x) := by
  obtain ⟨hA, hB, hD, hE, h10, h5⟩ := h
  have e1 : upN σ (65 + 5 * a + 1) x 1 = σ 1 := upN_n (by omega)
  have e2 : upN σ (65 + 5 * a + 1) x 2 = σ 2 := upN_n (by omega)
  refine ⟨fun c hc => ?_, fun t ht => ?_, fun t u ht hu q => ?_, fun t c h1 h2 h3 => ?_, by rw [e1]; exact h10, by rw [e2]; exact h5⟩
  · rw [e1] at hc
    have h9 := hA c hc
    rw [upN_n (j := 5 + 6 * c + 0) (by omega), upN_n (j := 5 + 6 * c + 1) (by omega), upN_n (j := 5 + 6 * c + 2) (by omega), upN_n (j := 5 + 6 * c + 3) (by omega), upN_n (j := 5 + 6 * c + 4) (by omega), upN_n (j := 5 + 6 * c + 5) (by omega)]
    exact h9
  · rw [e2] at ht
    have h9 := hB t ht
    rw [e1, upN_n (j := 65 + 5 * t + 0) (by omega), upN_n (j := 65 + 5 * t + 2) (by omega), upN_n (j := 65 + 5 * t + 3) (by omega), upN_n (j := 5 + 6 * σ (65 + 5 * t + 2) + 0) (by omega), upN_if (j := 65 + 5 * t + 1)]
    split
    · omega
    · exact h9
  · rw [e2] at ht hu
    rw [upN_n (by omega), upN_n (by omega)] at q
    exact hD t u ht hu q
  · rw [e2] at h1
    rw [upN_n (by omega)]
    exact hE t c h1 h2 h3
theorem Sm_pos {σ : Nat → Nat} {a x : Nat} (ha : a < 5) (hx : a < σ 2 → x ≤ σ (5 + 6 * σ (65 + 5 * a + 2) + 0)) (h : Sm σ) : Sm (upN σ (65 + 5 * a + 3) x) := by
  obtain ⟨hA, hB, hD, hE, h10, h5⟩ := h
  have e1 : upN σ (65 + 5 * a + 3) x 1 = σ 1 := upN_n (by omega)
  have e2 : upN σ (65 + 5 * a + 3) x 2 = σ 2 := upN_n (by omega)
  refine ⟨fun c hc => ?_, fun t ht => ?_, fun t u ht hu q => ?_, fun t c h1 h2 h3 => ?_, by rw [e1]; exact h10, by rw [e2]; exact h5⟩
  · rw [e1] at hc
    have h9 := hA c hc
    rw [upN_n (j := 5 + 6 * c + 0) (by omega), upN_n (j := 5 + 6 * c + 1) (by omega), upN_n (j := 5 + 6 * c + 2) (by omega), upN_n (j := 5 + 6 * c + 3) (by omega), upN_n (j := 5 + 6 * c + 4) (by omega), upN_n (j := 5 + 6 * c + 5) (by omega)]
    exact h9
  · rw [e2] at ht
    have h9 := hB t ht
    rw [e1, upN_n (j := 65 + 5 * t + 0) (by omega), upN_n (j := 65 + 5 * t + 1) (by omega), upN_n (j := 65 + 5 * t + 2) (by omega), upN_n (j := 5 + 6 * σ (65 + 5 * t + 2) + 0) (by omega), upN_if (j := 65 + 5 * t + 3)]
    split
    · (have e : t = a := by omega
       subst e
       have := hx ht
       omega)
    · exact h9
  · rw [e2] at ht hu
    rw [upN_n (by omega), upN_n (by omega)] at q
    exact hD t u ht hu q
  · rw [e2] at h1
    rw [upN_n (by omega)]
    exact hE t c h1 h2 h3
theorem Sm_wait {σ : Nat → Nat} {a x : Nat} (ha : a < 5) (h : Sm σ) : Sm (upN σ (65 + 5 * a + 4) x) := by
  obtain ⟨hA, hB, hD, hE, h10, h5⟩ := h
  have e1 : upN σ (65 + 5 * a + 4) x 1 = σ 1 := upN_n (by omega)
  have e2 : upN σ (65 + 5 * a + 4) x 2 = σ 2 := upN_n (by omega)
  refine ⟨fun c hc => ?_, fun t ht => ?_, fun t u ht hu q => ?_, fun t c h1 h2 h3 => ?_, by rw [e1]; exact h10, by rw [e2]; exact h5⟩
  · rw [e1] at hc
    have h9 := hA c hc
    rw [upN_n (j := 5 + 6 * c + 0) (by omega), upN_n (j := 5 + 6 * c + 1) (by omega), upN_n (j := 5 + 6 * c + 2) (by omega), upN_n (j := 5 + 6 * c + 3) (by omega), upN_n (j := 5 + 6 * c + 4) (by omega), upN_n (j := 5 + 6 * c + 5) (by omega)]
    exact h9
  · rw [e2] at ht
    have h9 := hB t ht
    rw [e1, upN_n (j := 65 + 5 * t + 0) (by omega), upN_n (j := 65 + 5 * t + 1) (by omega), upN_n (j := 65 + 5 * t + 2) (by omega), upN_n (j := 65 + 5 * t + 3) (by omega), upN_n (j := 5 + 6 * σ (65 + 5 * t + 2) + 0) (by omega)]
    exact h9
  · rw [e2] at ht hu
    rw [upN_n (by omega), upN_n (by omega)] at q
    exact hD t u ht hu q
  · rw [e2] at h1
    rw [upN_n (by omega)]
    exact hE t c h1 h2 h3
theorem Sm_psg {σ : Nat → Nat} {a b x : Nat} (hb : b < 10) (ha : a < 5) (hx : a < σ 2) (h : Sm σ) : Sm (upN σ (90 + 10 * a + b) x) := by
  obtain ⟨hA, hB, hD, hE, h10, h5⟩ := h
  have e1 : upN σ (90 + 10 * a + b) x 1 = σ 1 := upN_n (by omega)
  have e2 : upN σ (90 + 10 * a + b) x 2 = σ 2 := upN_n (by omega)
  refine ⟨fun c hc => ?_, fun t ht => ?_, fun t u ht hu q => ?_, fun t c h1 h2 h3 => ?_, by rw [e1]; exact h10, by rw [e2]; exact h5⟩
  · rw [e1] at hc
    have h9 := hA c hc
    rw [upN_n (j := 5 + 6 * c + 0) (by omega), upN_n (j := 5 + 6 * c + 1) (by omega), upN_n (j := 5 + 6 * c + 2) (by omega), upN_n (j := 5 + 6 * c + 3) (by omega), upN_n (j := 5 + 6 * c + 4) (by omega), upN_n (j := 5 + 6 * c + 5) (by omega)]
    exact h9
  · rw [e2] at ht
    have h9 := hB t ht
    rw [e1, upN_n (j := 65 + 5 * t + 0) (by omega), upN_n (j := 65 + 5 * t + 1) (by omega), upN_n (j := 65 + 5 * t + 2) (by omega), upN_n (j := 65 + 5 * t + 3) (by omega), upN_n (j := 5 + 6 * σ (65 + 5 * t + 2) + 0) (by omega)]
    exact h9
  · rw [e2] at ht hu
    rw [upN_n (by omega), upN_n (by omega)] at q
    exact hD t u ht hu q
  · rw [e2] at h1
    rw [upN_n (by omega)]
    exact hE t c h1 h2 h3
theorem Sm_0 {σ : Nat → Nat} {x : Nat} (h : Sm σ) : Sm (upN σ (0) x) := by
  obtain ⟨hA, hB, hD, hE, h10, h5⟩ := h
  have e1 : upN σ (0) x 1 = σ 1 := upN_n (by omega)
  have e2 : upN σ (0) x 2 = σ 2 := upN_n (by omega)
  refine ⟨fun c hc => ?_, fun t ht => ?_, fun t u ht hu q => ?_, fun t c h1 h2 h3 => ?_, by rw [e1]; exact h10, by rw [e2]; exact h5⟩
  · rw [e1] at hc
    have h9 := hA c hc
    rw [upN_n (j := 5 + 6 * c + 0) (by omega), upN_n (j := 5 + 6 * c + 1) (by omega), upN_n (j := 5 + 6 * c + 2) (by omega), upN_n (j := 5 + 6 * c + 3) (by omega), upN_n (j := 5 + 6 * c + 4) (by omega), upN_n (j := 5 + 6 * c + 5) (by omega)]
    exact h9
  · rw [e2] at ht
    have h9 := hB t ht
    rw [e1, upN_n (j := 65 + 5 * t + 0) (by omega), upN_n (j := 65 + 5 * t + 1) (by omega), upN_n (j := 65 + 5 * t + 2) (by omega), upN_n (j := 65 + 5 * t + 3) (by omega), upN_n (j := 5 + 6 * σ (65 + 5 * t + 2) + 0) (by omega)]
    exact h9
  · rw [e2] at ht hu
    rw [upN_n (by omega), upN_n (by omega)] at q
    exact hD t u ht hu q
  · rw [e2] at h1
    rw [upN_n (by omega)]
    exact hE t c h1 h2 h3
theorem Sm_3 {σ : Nat → Nat} {x : Nat} (h : Sm σ) : Sm (upN σ (3) x) := by
  obtain ⟨hA, hB, hD, hE, h10, h5⟩ := h
  have e1 : upN σ (3) x 1 = σ 1 := upN_n (by omega)
  have e2 : upN σ (3) x 2 = σ 2 := upN_n (by omega)
  refine ⟨fun c hc => ?_, fun t ht => ?_, fun t u ht hu q => ?_, fun t c h1 h2 h3 => ?_, by rw [e1]; exact h10, by rw [e2]; exact h5⟩
  · rw [e1] at hc
    have h9 := hA c hc
    rw [upN_n (j := 5 + 6 * c + 0) (by omega), upN_n (j := 5 + 6 * c + 1) (by omega), upN_n (j := 5 + 6 * c + 2) (by omega), upN_n (j := 5 + 6 * c + 3) (by omega), upN_n (j := 5 + 6 * c + 4) (by omega), upN_n (j := 5 + 6 * c + 5) (by omega)]
    exact h9
  · rw [e2] at ht
    have h9 := hB t ht
    rw [e1, upN_n (j := 65 + 5 * t + 0) (by omega), upN_n (j := 65 + 5 * t + 1) (by omega), upN_n (j := 65 + 5 * t + 2) (by omega), upN_n (j := 65 + 5 * t + 3) (by omega), upN_n (j := 5 + 6 * σ (65 + 5 * t + 2) + 0) (by omega)]
    exact h9
  · rw [e2] at ht hu
    rw [upN_n (by omega), upN_n (by omega)] at q
    exact hD t u ht hu q
  · rw [e2] at h1
    rw [upN_n (by omega)]
    exact hE t c h1 h2 h3
theorem Sm_4 {σ : Nat → Nat} {x : Nat} (h : Sm σ) : Sm (upN σ (4) x) := by
  obtain ⟨hA, hB, hD, hE, h10, h5⟩ := h
  have e1 : upN σ (4) x 1 = σ 1 := upN_n (by omega)
  have e2 : upN σ (4) x 2 = σ 2 := upN_n (by omega)
  refine ⟨fun c hc => ?_, fun t ht => ?_, fun t u ht hu q => ?_, fun t c h1 h2 h3 => ?_, by rw [e1]; exact h10, by rw [e2]; exact h5⟩
  · rw [e1] at hc
    have h9 := hA c hc
    rw [upN_n (j := 5 + 6 * c + 0) (by omega), upN_n (j := 5 + 6 * c + 1) (by omega), upN_n (j := 5 + 6 * c + 2) (by omega), upN_n (j := 5 + 6 * c + 3) (by omega), upN_n (j := 5 + 6 * c + 4) (by omega), upN_n (j := 5 + 6 * c + 5) (by omega)]
    exact h9
  · rw [e2] at ht
    have h9 := hB t ht
    rw [e1, upN_n (j := 65 + 5 * t + 0) (by omega), upN_n (j := 65 + 5 * t + 1) (by omega), upN_n (j := 65 + 5 * t + 2) (by omega), upN_n (j := 65 + 5 * t + 3) (by omega), upN_n (j := 5 + 6 * σ (65 + 5 * t + 2) + 0) (by omega)]
    exact h9
  · rw [e2] at ht hu
    rw [upN_n (by omega), upN_n (by omega)] at q
    exact hD t u ht hu q
  · rw [e2] at h1
    rw [upN_n (by omega)]
    exact hE t c h1 h2 h3
/-- a train stands elsewhere, at the beginning of a block where none stands -/
theorem Sm_plc {σ : Nat → Nat} {a x : Nat} (ha : a < σ 2) (hx : x < σ 1) (hn : ∀ u, u < σ 2 → σ (65 + 5 * u + 2) ≠ x) (h : Sm σ) : Sm (upN (upN σ (65 + 5 * a + 2) x) (65 + 5 * a + 3) 0) := by
  obtain ⟨hA, hB, hD, hE, h10, h5⟩ := h
  have e1 : upN (upN σ (65 + 5 * a + 2) x) (65 + 5 * a + 3) 0 1 = σ 1 := by rw [upN_n (by omega), upN_n (by omega)]
  have e2 : upN (upN σ (65 + 5 * a + 2) x) (65 + 5 * a + 3) 0 2 = σ 2 := by rw [upN_n (by omega), upN_n (by omega)]
  have ep : ∀ u, upN (upN σ (65 + 5 * a + 2) x) (65 + 5 * a + 3) 0 (65 + 5 * u + 2) = if u = a then x else σ (65 + 5 * u + 2) := by
    intro u
    rw [upN_n (by omega), upN_if]
    by_cases q : u = a
    · subst q
      rw [if_pos rfl, if_pos rfl]
    · rw [if_neg q, if_neg (by omega)]
  refine ⟨fun c hc => ?_, fun t ht => ?_, fun t u ht hu q => ?_, fun t c h1 h2 h3 => ?_, by rw [e1]; exact h10, by rw [e2]; exact h5⟩
  · rw [e1] at hc
    have h9 := hA c hc
    rw [upN_n (j := 5 + 6 * c + 0) (by omega), upN_n (j := 5 + 6 * c + 0) (by omega), upN_n (j := 5 + 6 * c + 1) (by omega), upN_n (j := 5 + 6 * c + 1) (by omega), upN_n (j := 5 + 6 * c + 2) (by omega), upN_n (j := 5 + 6 * c + 2) (by omega), upN_n (j := 5 + 6 * c + 3) (by omega), upN_n (j := 5 + 6 * c + 3) (by omega), upN_n (j := 5 + 6 * c + 4) (by omega), upN_n (j := 5 + 6 * c + 4) (by omega), upN_n (j := 5 + 6 * c + 5) (by omega), upN_n (j := 5 + 6 * c + 5) (by omega)]
    exact h9
  · rw [e2] at ht
    have h9 := hB t ht
    rw [ep, e1, upN_n (j := 65 + 5 * t + 0) (by omega), upN_n (j := 65 + 5 * t + 0) (by omega), upN_n (j := 65 + 5 * t + 1) (by omega), upN_n (j := 65 + 5 * t + 1) (by omega), upN_if (j := 65 + 5 * t + 3)]
    by_cases q : t = a
    · subst q
      rw [if_pos rfl, if_pos rfl]
      exact ⟨h9.1, h9.2.1, h9.2.2.1, h9.2.2.2.1, hx, Nat.zero_le _⟩
    · rw [if_neg q, if_neg (by omega), upN_n (j := 65 + 5 * t + 3) (by omega), upN_n (j := 5 + 6 * σ (65 + 5 * t + 2) + 0) (by omega), upN_n (j := 5 + 6 * σ (65 + 5 * t + 2) + 0) (by omega)]
      exact h9
  · rw [e2] at ht hu
    rw [ep, ep] at q
    by_cases q1 : t = a
    · by_cases q2 : u = a
      · omega
      · rw [if_pos q1, if_neg q2] at q
        exact absurd q.symm (hn u hu)
    · by_cases q2 : u = a
      · rw [if_neg q1, if_pos q2] at q
        exact absurd q (hn t ht)
      · rw [if_neg q1, if_neg q2] at q
        exact hD t u ht hu q
  · rw [e2] at h1
    rw [upN_n (by omega), upN_n (by omega)]
    exact hE t c h1 h2 h3
/-- which train stands in a block -/
theorem trAt_iff {σ : Nat → Nat} (h : Sm σ) {t b : Nat} (ht : t < σ 2) : trAt σ b = t + 1 ↔ σ (65 + 5 * t + 2) = b := by
  constructor
  · intro q
    have := (trL_some σ b (σ 2) 0 (by show 0 < trAt σ b; omega)).2
    have e : trL σ b (σ 2) 0 = t + 1 := q
    rw [e, Nat.add_sub_cancel] at this
    exact this
  · intro q
    have h1 : 0 < trAt σ b := by rw [← q]; exact trAt_pos ht
    have h2 := (trL_some σ b (σ 2) 0 h1).2
    have h3 := trAt_le σ b
    have h4 : trAt σ b - 1 < σ 2 := by omega
    have h5 := h.2.2.1 (trAt σ b - 1) t h4 ht (h2.trans q.symm)
    omega
theorem trAt_0 {σ : Nat → Nat} {b : Nat} : trAt σ b = 0 ↔ ∀ t, t < σ 2 → σ (65 + 5 * t + 2) ≠ b := by
  constructor
  · intro q t ht
    exact trL_none σ b (σ 2) 0 q t (Nat.zero_le _) (by omega)
  · intro q
    rcases Nat.eq_zero_or_pos (trAt σ b) with h | h
    · exact h
    · have h2 := (trL_some σ b (σ 2) 0 h).2
      have h3 := trAt_le σ b
      exact absurd h2 (q _ (by show trAt σ b - 1 < σ 2; omega))
theorem occ_f {σ : Nat → Nat} {b : Nat} (h : occ σ b = false) : trAt σ b = 0 ∧ σ (5 + 6 * b + 5) = 0 := by
  simp only [occ] at h
  split at h
  · cases h
  · rename_i q
    have := of_decide_eq_false h
    omega
theorem trAt_ext {σ τ : Nat → Nat} (h2 : τ 2 = σ 2) (hp : ∀ t, t < σ 2 → τ (65 + 5 * t + 2) = σ (65 + 5 * t + 2)) (b : Nat) : trAt τ b = trAt σ b := by
  have key : ∀ n k, k + n ≤ σ 2 → trL τ b n k = trL σ b n k := by
    intro n
    induction n with
    | zero => exact fun _ _ => rfl
    | succ n ih =>
      intro k hk
      simp only [trL]
      rw [hp k (by omega), ih (k + 1) (by omega)]
  simp only [trAt]
  rw [h2]
  exact key (σ 2) 0 (by omega)
/-- .. behind a move -/
theorem trAt_mv {σ τ : Nat → Nat} {t n : Nat} (h : Sm σ) (ht : t < σ 2) (hs : Sm τ) (h2 : τ 2 = σ 2) (hp : ∀ u, u < σ 2 → τ (65 + 5 * u + 2) = if u = t then n else σ (65 + 5 * u + 2)) (hn : trAt σ n = 0) (b : Nat) :
    trAt τ b = if b = n then t + 1 else if b = σ (65 + 5 * t + 2) then 0 else trAt σ b := by
  by_cases q1 : b = n
  · rw [if_pos q1, (trAt_iff hs (t := t) (by omega)).mpr (by rw [hp t ht, if_pos rfl, q1])]
  · rw [if_neg q1]
    by_cases q2 : b = σ (65 + 5 * t + 2)
    · rw [if_pos q2]
      refine trAt_0.mpr (fun u hu q => ?_)
      rw [h2] at hu
      rw [hp u hu] at q
      by_cases q3 : u = t
      · rw [if_pos q3] at q
        exact q1 q.symm
      · rw [if_neg q3] at q
        exact q3 (h.2.2.1 u t hu ht (q.trans q2))
    · rw [if_neg q2]
      rcases Nat.eq_zero_or_pos (trAt σ b) with h0 | h0
      · rw [h0]
        refine trAt_0.mpr (fun u hu q => ?_)
        rw [h2] at hu
        rw [hp u hu] at q
        by_cases q3 : u = t
        · rw [if_pos q3] at q
          exact q1 q.symm
        · rw [if_neg q3] at q
          exact trAt_0.mp h0 u hu q
      · obtain ⟨u, hu⟩ : ∃ u, trAt σ b = u + 1 := ⟨trAt σ b - 1, by omega⟩
        have hu2 : u < σ 2 := by have := trAt_le σ b; omega
        have hu3 := (trAt_iff h hu2).mp hu
        rw [hu]
        refine (trAt_iff hs (by omega)).mpr ?_
        rw [hp u hu2, if_neg (fun q3 => q2 (by rw [← hu3, q3]))]
        exact hu3
end PURE9
