section PURE11
theorem up2_s {g : Nat → Nat → Nat} {k i x : Nat} : up2 g k i x k i = x := by
  show upA g k (upN (g k) i x) k i = x
  rw [upA_s, upN_s]
/-- the picture g shows the state σ, but for the occupants -/
def Rp (g : Nat → Nat → Nat) (σ : Nat → Nat) : Prop :=
  (g 0 0 = σ 0 ∧ g 1 0 = σ 1 ∧ g 2 0 = σ 2 ∧ g 3 0 = σ 3 ∧ g 4 0 = σ 4) ∧
  (∀ b, b < σ 1 → g 5 b = σ (5 + 6 * b + 0) ∧ g 6 b = σ (5 + 6 * b + 1) ∧ g 7 b = (if σ (5 + 6 * b + 3) = 1 then σ (5 + 6 * b + 2) else 0) ∧ g 8 b = σ (5 + 6 * b + 4) ∧ g 9 b = σ (5 + 6 * b + 5)) ∧
  (∀ t, t < σ 2 → g 11 t = σ (65 + 5 * t + 2) ∧ g 12 t = σ (65 + 5 * t + 3) ∧ g 13 t = σ (65 + 5 * t + 0) ∧ g 14 t = σ (65 + 5 * t + 1) ∧ g 15 t = σ (65 + 5 * t + 4)) ∧
  (∀ t b, t < σ 2 → b < 10 → g 16 (t * 10 + b) = σ (90 + 10 * t + b))
def Rep (g : Nat → Nat → Nat) (σ : Nat → Nat) : Prop := Rp g σ ∧ ∀ b, b < σ 1 → g 10 b = trAt σ b
section ACC
variable {g : Nat → Nat → Nat} {σ : Nat → Nat}
theorem Rp.s0 (h : Rp g σ) : g 0 0 = σ 0 := h.1.1
theorem Rp.s1 (h : Rp g σ) : g 1 0 = σ 1 := h.1.2.1
theorem Rp.s2 (h : Rp g σ) : g 2 0 = σ 2 := h.1.2.2.1
theorem Rp.s3 (h : Rp g σ) : g 3 0 = σ 3 := h.1.2.2.2.1
theorem Rp.s4 (h : Rp g σ) : g 4 0 = σ 4 := h.1.2.2.2.2
theorem Rp.b5 (h : Rp g σ) {b : Nat} (hb : b < σ 1) : g 5 b = σ (5 + 6 * b + 0) := (h.2.1 b hb).1
theorem Rp.b6 (h : Rp g σ) {b : Nat} (hb : b < σ 1) : g 6 b = σ (5 + 6 * b + 1) := (h.2.1 b hb).2.1
theorem Rp.b7 (h : Rp g σ) {b : Nat} (hb : b < σ 1) : g 7 b = (if σ (5 + 6 * b + 3) = 1 then σ (5 + 6 * b + 2) else 0) := (h.2.1 b hb).2.2.1
theorem Rp.b8 (h : Rp g σ) {b : Nat} (hb : b < σ 1) : g 8 b = σ (5 + 6 * b + 4) := (h.2.1 b hb).2.2.2.1
theorem Rp.b9 (h : Rp g σ) {b : Nat} (hb : b < σ 1) : g 9 b = σ (5 + 6 * b + 5) := (h.2.1 b hb).2.2.2.2
theorem Rp.t11 (h : Rp g σ) {t : Nat} (ht : t < σ 2) : g 11 t = σ (65 + 5 * t + 2) := (h.2.2.1 t ht).1
theorem Rp.t12 (h : Rp g σ) {t : Nat} (ht : t < σ 2) : g 12 t = σ (65 + 5 * t + 3) := (h.2.2.1 t ht).2.1
theorem Rp.t13 (h : Rp g σ) {t : Nat} (ht : t < σ 2) : g 13 t = σ (65 + 5 * t + 0) := (h.2.2.1 t ht).2.2.1
theorem Rp.t14 (h : Rp g σ) {t : Nat} (ht : t < σ 2) : g 14 t = σ (65 + 5 * t + 1) := (h.2.2.1 t ht).2.2.2.1
theorem Rp.t15 (h : Rp g σ) {t : Nat} (ht : t < σ 2) : g 15 t = σ (65 + 5 * t + 4) := (h.2.2.1 t ht).2.2.2.2
theorem Rp.p16 (h : Rp g σ) {t b : Nat} (ht : t < σ 2) (hb : b < 10) : g 16 (t * 10 + b) = σ (90 + 10 * t + b) := h.2.2.2 t b ht hb
theorem Rp.occ (h : Rp g σ) {b x : Nat} : Rp (up2 g 10 b x) σ := h
theorem Rp.dep (h : Rp g σ) (h10 : σ 1 ≤ 10) (h5 : σ 2 ≤ 5) {b x : Nat} (hb : b < 10) : Rp (up2 g 6 b x) (upN σ (5 + 6 * b + 1) x) := by
  obtain ⟨hA, hB, hC, hE⟩ := h
  have e0 : upN σ (5 + 6 * b + 1) x 0 = σ 0 := upN_n (by omega)
  have e1 : upN σ (5 + 6 * b + 1) x 1 = σ 1 := upN_n (by omega)
  have e2 : upN σ (5 + 6 * b + 1) x 2 = σ 2 := upN_n (by omega)
  have e3 : upN σ (5 + 6 * b + 1) x 3 = σ 3 := upN_n (by omega)
  have e4 : upN σ (5 + 6 * b + 1) x 4 = σ 4 := upN_n (by omega)
  refine ⟨by rw [e0, e1, e2, e3, e4]; exact hA, fun c hc => ?_, fun t ht => ?_, fun t c ht hc => ?_⟩
  · rw [e1] at hc
    have h9 := hB c hc
    rw [upN_n (j := 5 + 6 * c + 0) (by omega), upN_n (j := 5 + 6 * c + 2) (by omega), upN_n (j := 5 + 6 * c + 3) (by omega), upN_n (j := 5 + 6 * c + 4) (by omega), upN_n (j := 5 + 6 * c + 5) (by omega)]
    refine ⟨h9.1, ?_, h9.2.2.1, h9.2.2.2.1, h9.2.2.2.2⟩
    show upN (g 6) b x c = _
    by_cases q : c = b
    · subst q; rw [upN_s, upN_s]
    · rw [upN_n q, upN_n (by omega)]; exact h9.2.1
  · rw [e2] at ht
    have h9 := hC t ht
    rw [upN_n (j := 65 + 5 * t + 0) (by omega), upN_n (j := 65 + 5 * t + 1) (by omega), upN_n (j := 65 + 5 * t + 2) (by omega), upN_n (j := 65 + 5 * t + 3) (by omega), upN_n (j := 65 + 5 * t + 4) (by omega)]
    exact h9
  · rw [e2] at ht
    rw [upN_n (by omega)]
    exact hE t c ht hc
theorem Rp.clr (h : Rp g σ) (h10 : σ 1 ≤ 10) (h5 : σ 2 ≤ 5) {b x : Nat} (hb : b < 10) : Rp (up2 g 8 b x) (upN σ (5 + 6 * b + 4) x) := by
  obtain ⟨hA, hB, hC, hE⟩ := h
  have e0 : upN σ (5 + 6 * b + 4) x 0 = σ 0 := upN_n (by omega)
  have e1 : upN σ (5 + 6 * b + 4) x 1 = σ 1 := upN_n (by omega)
  have e2 : upN σ (5 + 6 * b + 4) x 2 = σ 2 := upN_n (by omega)
  have e3 : upN σ (5 + 6 * b + 4) x 3 = σ 3 := upN_n (by omega)
  have e4 : upN σ (5 + 6 * b + 4) x 4 = σ 4 := upN_n (by omega)
  refine ⟨by rw [e0, e1, e2, e3, e4]; exact hA, fun c hc => ?_, fun t ht => ?_, fun t c ht hc => ?_⟩
  · rw [e1] at hc
    have h9 := hB c hc
    rw [upN_n (j := 5 + 6 * c + 0) (by omega), upN_n (j := 5 + 6 * c + 1) (by omega), upN_n (j := 5 + 6 * c + 2) (by omega), upN_n (j := 5 + 6 * c + 3) (by omega), upN_n (j := 5 + 6 * c + 5) (by omega)]
    refine ⟨h9.1, h9.2.1, h9.2.2.1, ?_, h9.2.2.2.2⟩
    show upN (g 8) b x c = _
    by_cases q : c = b
    · subst q; rw [upN_s, upN_s]
    · rw [upN_n q, upN_n (by omega)]; exact h9.2.2.2.1
  · rw [e2] at ht
    have h9 := hC t ht
    rw [upN_n (j := 65 + 5 * t + 0) (by omega), upN_n (j := 65 + 5 * t + 1) (by omega), upN_n (j := 65 + 5 * t + 2) (by omega), upN_n (j := 65 + 5 * t + 3) (by omega), upN_n (j := 65 + 5 * t + 4) (by omega)]
    exact h9
  · rw [e2] at ht
    rw [upN_n (by omega)]
    exact hE t c ht hc
theorem Rp.lost (h : Rp g σ) (h10 : σ 1 ≤ 10) (h5 : σ 2 ≤ 5) {b x : Nat} (hb : b < 10) : Rp (up2 g 9 b x) (upN σ (5 + 6 * b + 5) x) := by
  obtain ⟨hA, hB, hC, hE⟩ := h
  have e0 : upN σ (5 + 6 * b + 5) x 0 = σ 0 := upN_n (by omega)
  have e1 : upN σ (5 + 6 * b + 5) x 1 = σ 1 := upN_n (by omega)
  have e2 : upN σ (5 + 6 * b + 5) x 2 = σ 2 := upN_n (by omega)
  have e3 : upN σ (5 + 6 * b + 5) x 3 = σ 3 := upN_n (by omega)
  have e4 : upN σ (5 + 6 * b + 5) x 4 = σ 4 := upN_n (by omega)
  refine ⟨by rw [e0, e1, e2, e3, e4]; exact hA, fun c hc => ?_, fun t ht => ?_, fun t c ht hc => ?_⟩
  · rw [e1] at hc
    have h9 := hB c hc
    rw [upN_n (j := 5 + 6 * c + 0) (by omega), upN_n (j := 5 + 6 * c + 1) (by omega), upN_n (j := 5 + 6 * c + 2) (by omega), upN_n (j := 5 + 6 * c + 3) (by omega), upN_n (j := 5 + 6 * c + 4) (by omega)]
    refine ⟨h9.1, h9.2.1, h9.2.2.1, h9.2.2.2.1, ?_⟩
    show upN (g 9) b x c = _
    by_cases q : c = b
    · subst q; rw [upN_s, upN_s]
    · rw [upN_n q, upN_n (by omega)]; exact h9.2.2.2.2
  · rw [e2] at ht
    have h9 := hC t ht
    rw [upN_n (j := 65 + 5 * t + 0) (by omega), upN_n (j := 65 + 5 * t + 1) (by omega), upN_n (j := 65 + 5 * t + 2) (by omega), upN_n (j := 65 + 5 * t + 3) (by omega), upN_n (j := 65 + 5 * t + 4) (by omega)]
    exact h9
  · rw [e2] at ht
    rw [upN_n (by omega)]
    exact hE t c ht hc
theorem Rp.plc (h : Rp g σ) (h10 : σ 1 ≤ 10) (h5 : σ 2 ≤ 5) {a x : Nat} (ha : a < 5) : Rp (up2 g 11 a x) (upN σ (65 + 5 * a + 2) x) := by
  obtain ⟨hA, hB, hC, hE⟩ := h
  have e0 : upN σ (65 + 5 * a + 2) x 0 = σ 0 := upN_n (by omega)
  have e1 : upN σ (65 + 5 * a + 2) x 1 = σ 1 := upN_n (by omega)
  have e2 : upN σ (65 + 5 * a + 2) x 2 = σ 2 := upN_n (by omega)
  have e3 : upN σ (65 + 5 * a + 2) x 3 = σ 3 := upN_n (by omega)
  have e4 : upN σ (65 + 5 * a + 2) x 4 = σ 4 := upN_n (by omega)
  refine ⟨by rw [e0, e1, e2, e3, e4]; exact hA, fun c hc => ?_, fun t ht => ?_, fun t c ht hc => ?_⟩
  · rw [e1] at hc
    have h9 := hB c hc
    rw [upN_n (j := 5 + 6 * c + 0) (by omega), upN_n (j := 5 + 6 * c + 1) (by omega), upN_n (j := 5 + 6 * c + 2) (by omega), upN_n (j := 5 + 6 * c + 3) (by omega), upN_n (j := 5 + 6 * c + 4) (by omega), upN_n (j := 5 + 6 * c + 5) (by omega)]
    exact h9
  · rw [e2] at ht
    have h9 := hC t ht
    rw [upN_n (j := 65 + 5 * t + 0) (by omega), upN_n (j := 65 + 5 * t + 1) (by omega), upN_n (j := 65 + 5 * t + 3) (by omega), upN_n (j := 65 + 5 * t + 4) (by omega)]
    refine ⟨?_, h9.2.1, h9.2.2.1, h9.2.2.2.1, h9.2.2.2.2⟩
    show upN (g 11) a x t = _
    by_cases q : t = a
    · subst q; rw [upN_s, upN_s]
    · rw [upN_n q, upN_n (by omega)]; exact h9.1
  · rw [e2] at ht
    rw [upN_n (by omega)]
    exact hE t c ht hc
theorem Rp.pos (h : Rp g σ) (h10 : σ 1 ≤ 10) (h5 : σ 2 ≤ 5) {a x : Nat} (ha : a < 5) : Rp (up2 g 12 a x) (upN σ (65 + 5 * a + 3) x) := by
  obtain ⟨hA, hB, hC, hE⟩ := h
  have e0 : upN σ (65 + 5 * a + 3) x 0 = σ 0 := upN_n (by omega)
  have e1 : upN σ (65 + 5 * a + 3) x 1 = σ 1 := upN_n (by omega)
  have e2 : upN σ (65 + 5 * a + 3) x 2 = σ 2 := upN_n (by omega)
  have e3 : upN σ (65 + 5 * a + 3) x 3 = σ 3 := upN_n (by omega)
  have e4 : upN σ (65 + 5 * a + 3) x 4 = σ 4 := upN_n (by omega)
  refine ⟨by rw [e0, e1, e2, e3, e4]; exact hA, fun c hc => ?_, fun t ht => ?_, fun t c ht hc => ?_⟩
  · rw [e1] at hc
    have h9 := hB c hc
    rw [upN_n (j := 5 + 6 * c + 0) (by omega), upN_n (j := 5 + 6 * c + 1) (by omega), upN_n (j := 5 + 6 * c + 2) (by omega), upN_n (j := 5 + 6 * c + 3) (by omega), upN_n (j := 5 + 6 * c + 4) (by omega), upN_n (j := 5 + 6 * c + 5) (by omega)]
    exact h9
  · rw [e2] at ht
    have h9 := hC t ht
    rw [upN_n (j := 65 + 5 * t + 0) (by omega), upN_n (j := 65 + 5 * t + 1) (by omega), upN_n (j := 65 + 5 * t + 2) (by omega), upN_n (j := 65 + 5 * t + 4) (by omega)]
    refine ⟨h9.1, ?_, h9.2.2.1, h9.2.2.2.1, h9.2.2.2.2⟩
    show upN (g 12) a x t = _
    by_cases q : t = a
    · subst q; rw [upN_s, upN_s]
    · rw [upN_n q, upN_n (by omega)]; exact h9.2.1
  · rw [e2] at ht
    rw [upN_n (by omega)]
    exact hE t c ht hc
theorem Rp.wag (h : Rp g σ) (h10 : σ 1 ≤ 10) (h5 : σ 2 ≤ 5) {a x : Nat} (ha : a < 5) : Rp (up2 g 13 a x) (upN σ (65 + 5 * a + 0) x) := by
  obtain ⟨hA, hB, hC, hE⟩ := h
  have e0 : upN σ (65 + 5 * a + 0) x 0 = σ 0 := upN_n (by omega)
  have e1 : upN σ (65 + 5 * a + 0) x 1 = σ 1 := upN_n (by omega)
  have e2 : upN σ (65 + 5 * a + 0) x 2 = σ 2 := upN_n (by omega)
  have e3 : upN σ (65 + 5 * a + 0) x 3 = σ 3 := upN_n (by omega)
  have e4 : upN σ (65 + 5 * a + 0) x 4 = σ 4 := upN_n (by omega)
  refine ⟨by rw [e0, e1, e2, e3, e4]; exact hA, fun c hc => ?_, fun t ht => ?_, fun t c ht hc => ?_⟩
  · rw [e1] at hc
    have h9 := hB c hc
    rw [upN_n (j := 5 + 6 * c + 0) (by omega), upN_n (j := 5 + 6 * c + 1) (by omega), upN_n (j := 5 + 6 * c + 2) (by omega), upN_n (j := 5 + 6 * c + 3) (by omega), upN_n (j := 5 + 6 * c + 4) (by omega), upN_n (j := 5 + 6 * c + 5) (by omega)]
    exact h9
  · rw [e2] at ht
    have h9 := hC t ht
    rw [upN_n (j := 65 + 5 * t + 1) (by omega), upN_n (j := 65 + 5 * t + 2) (by omega), upN_n (j := 65 + 5 * t + 3) (by omega), upN_n (j := 65 + 5 * t + 4) (by omega)]
    refine ⟨h9.1, h9.2.1, ?_, h9.2.2.2.1, h9.2.2.2.2⟩
    show upN (g 13) a x t = _
    by_cases q : t = a
    · subst q; rw [upN_s, upN_s]
    · rw [upN_n q, upN_n (by omega)]; exact h9.2.2.1
  · rw [e2] at ht
    rw [upN_n (by omega)]
    exact hE t c ht hc
theorem Rp.top (h : Rp g σ) (h10 : σ 1 ≤ 10) (h5 : σ 2 ≤ 5) {a x : Nat} (ha : a < 5) : Rp (up2 g 14 a x) (upN σ (65 + 5 * a + 1) x) := by
  obtain ⟨hA, hB, hC, hE⟩ := h
  have e0 : upN σ (65 + 5 * a + 1) x 0 = σ 0 := upN_n (by omega)
  have e1 : upN σ (65 + 5 * a + 1) x 1 = σ 1 := upN_n (by omega)
  have e2 : upN σ (65 + 5 * a + 1) x 2 = σ 2 := upN_n (by omega)
  have e3 : upN σ (65 + 5 * a + 1) x 3 = σ 3 := upN_n (by omega)
  have e4 : upN σ (65 + 5 * a + 1) x 4 = σ 4 := upN_n (by omega)
  refine ⟨by rw [e0, e1, e2, e3, e4]; exact hA, fun c hc => ?_, fun t ht => ?_, fun t c ht hc => ?_⟩
  · rw [e1] at hc
    have h9 := hB c hc
    rw [upN_n (j := 5 + 6 * c + 0) (by omega), upN_n (j := 5 + 6 * c + 1) (by omega), upN_n (j := 5 + 6 * c + 2) (by omega), upN_n (j := 5 + 6 * c + 3) (by omega), upN_n (j := 5 + 6 * c + 4) (by omega), upN_n (j := 5 + 6 * c + 5) (by omega)]
    exact h9
  · rw [e2] at ht
    have h9 := hC t ht
    rw [upN_n (j := 65 + 5 * t + 0) (by omega), upN_n (j := 65 + 5 * t + 2) (by omega), upN_n (j := 65 + 5 * t + 3) (by omega), upN_n (j := 65 + 5 * t + 4) (by omega)]
    refine ⟨h9.1, h9.2.1, h9.2.2.1, ?_, h9.2.2.2.2⟩
    show upN (g 14) a x t = _
    by_cases q : t = a
    · subst q; rw [upN_s, upN_s]
    · rw [upN_n q, upN_n (by omega)]; exact h9.2.2.2.1
  · rw [e2] at ht
    rw [upN_n (by omega)]
    exact hE t c ht hc
theorem Rp.wait (h : Rp g σ) (h10 : σ 1 ≤ 10) (h5 : σ 2 ≤ 5) {a x : Nat} (ha : a < 5) : Rp (up2 g 15 a x) (upN σ (65 + 5 * a + 4) x) := by
  obtain ⟨hA, hB, hC, hE⟩ := h
  have e0 : upN σ (65 + 5 * a + 4) x 0 = σ 0 := upN_n (by omega)
  have e1 : upN σ (65 + 5 * a + 4) x 1 = σ 1 := upN_n (by omega)
  have e2 : upN σ (65 + 5 * a + 4) x 2 = σ 2 := upN_n (by omega)
  have e3 : upN σ (65 + 5 * a + 4) x 3 = σ 3 := upN_n (by omega)
  have e4 : upN σ (65 + 5 * a + 4) x 4 = σ 4 := upN_n (by omega)
  refine ⟨by rw [e0, e1, e2, e3, e4]; exact hA, fun c hc => ?_, fun t ht => ?_, fun t c ht hc => ?_⟩
  · rw [e1] at hc
    have h9 := hB c hc
    rw [upN_n (j := 5 + 6 * c + 0) (by omega), upN_n (j := 5 + 6 * c + 1) (by omega), upN_n (j := 5 + 6 * c + 2) (by omega), upN_n (j := 5 + 6 * c + 3) (by omega), upN_n (j := 5 + 6 * c + 4) (by omega), upN_n (j := 5 + 6 * c + 5) (by omega)]
    exact h9
  · rw [e2] at ht
    have h9 := hC t ht
    rw [upN_n (j := 65 + 5 * t + 0) (by omega), upN_n (j := 65 + 5 * t + 1) (by omega), upN_n (j := 65 + 5 * t + 2) (by omega), upN_n (j := 65 + 5 * t + 3) (by omega)]
    refine ⟨h9.1, h9.2.1, h9.2.2.1, h9.2.2.2.1, ?_⟩
    show upN (g 15) a x t = _
    by_cases q : t = a
    · subst q; rw [upN_s, upN_s]
    · rw [upN_n q, upN_n (by omega)]; exact h9.2.2.2.2
  · rw [e2] at ht
    rw [upN_n (by omega)]
    exact hE t c ht hc
theorem Rp.psg (h : Rp g σ) (h10 : σ 1 ≤ 10) (h5 : σ 2 ≤ 5) {a b x : Nat} (ha : a < 5) (hb : b < 10) : Rp (up2 g 16 (a * 10 + b) x) (upN σ (90 + 10 * a + b) x) := by
  obtain ⟨hA, hB, hC, hE⟩ := h
  have e0 : upN σ (90 + 10 * a + b) x 0 = σ 0 := upN_n (by omega)
  have e1 : upN σ (90 + 10 * a + b) x 1 = σ 1 := upN_n (by omega)
  have e2 : upN σ (90 + 10 * a + b) x 2 = σ 2 := upN_n (by omega)
  have e3 : upN σ (90 + 10 * a + b) x 3 = σ 3 := upN_n (by omega)
  have e4 : upN σ (90 + 10 * a + b) x 4 = σ 4 := upN_n (by omega)
  refine ⟨by rw [e0, e1, e2, e3, e4]; exact hA, fun c hc => ?_, fun t ht => ?_, fun t c ht hc => ?_⟩
  · rw [e1] at hc
    have h9 := hB c hc
    rw [upN_n (j := 5 + 6 * c + 0) (by omega), upN_n (j := 5 + 6 * c + 1) (by omega), upN_n (j := 5 + 6 * c + 2) (by omega), upN_n (j := 5 + 6 * c + 3) (by omega), upN_n (j := 5 + 6 * c + 4) (by omega), upN_n (j := 5 + 6 * c + 5) (by omega)]
    exact h9
  · rw [e2] at ht
    have h9 := hC t ht
    rw [upN_n (j := 65 + 5 * t + 0) (by omega), upN_n (j := 65 + 5 * t + 1) (by omega), upN_n (j := 65 + 5 * t + 2) (by omega), upN_n (j := 65 + 5 * t + 3) (by omega), upN_n (j := 65 + 5 * t + 4) (by omega)]
    exact h9
  · rw [e2] at ht
    show upN (g 16) (a * 10 + b) x (t * 10 + c) = _
    by_cases q : t * 10 + c = a * 10 + b
    · have q1 : t = a := by omega
      have q2 : c = b := by omega
      subst q1; subst q2
      rw [upN_s, upN_s]
    · rw [upN_n q, upN_n (by omega)]; exact hE t c ht hc
theorem Rp.tick (h : Rp g σ) (h10 : σ 1 ≤ 10) (h5 : σ 2 ≤ 5) {x : Nat} : Rp (up2 g 0 0 x) (upN σ (0) x) := by
  obtain ⟨hA, hB, hC, hE⟩ := h
  have e0 : upN σ (0) x 0 = x := upN_s
  have e1 : upN σ (0) x 1 = σ 1 := upN_n (by omega)
  have e2 : upN σ (0) x 2 = σ 2 := upN_n (by omega)
  have e3 : upN σ (0) x 3 = σ 3 := upN_n (by omega)
  have e4 : upN σ (0) x 4 = σ 4 := upN_n (by omega)
  refine ⟨by rw [e0, e1, e2, e3, e4]; exact ⟨up2_s, hA.2.1, hA.2.2.1, hA.2.2.2.1, hA.2.2.2.2⟩, fun c hc => ?_, fun t ht => ?_, fun t c ht hc => ?_⟩
  · rw [e1] at hc
    have h9 := hB c hc
    rw [upN_n (j := 5 + 6 * c + 0) (by omega), upN_n (j := 5 + 6 * c + 1) (by omega), upN_n (j := 5 + 6 * c + 2) (by omega), upN_n (j := 5 + 6 * c + 3) (by omega), upN_n (j := 5 + 6 * c + 4) (by omega), upN_n (j := 5 + 6 * c + 5) (by omega)]
    exact h9
  · rw [e2] at ht
    have h9 := hC t ht
    rw [upN_n (j := 65 + 5 * t + 0) (by omega), upN_n (j := 65 + 5 * t + 1) (by omega), upN_n (j := 65 + 5 * t + 2) (by omega), upN_n (j := 65 + 5 * t + 3) (by omega), upN_n (j := 65 + 5 * t + 4) (by omega)]
    exact h9
  · rw [e2] at ht
    rw [upN_n (by omega)]
    exact hE t c ht hc
theorem Rp.rem (h : Rp g σ) (h10 : σ 1 ≤ 10) (h5 : σ 2 ≤ 5) {x : Nat} : Rp (up2 g 3 0 x) (upN σ (3) x) := by
  obtain ⟨hA, hB, hC, hE⟩ := h
  have e0 : upN σ (3) x 0 = σ 0 := upN_n (by omega)
  have e1 : upN σ (3) x 1 = σ 1 := upN_n (by omega)
  have e2 : upN σ (3) x 2 = σ 2 := upN_n (by omega)
  have e3 : upN σ (3) x 3 = x := upN_s
  have e4 : upN σ (3) x 4 = σ 4 := upN_n (by omega)
  refine ⟨by rw [e0, e1, e2, e3, e4]; exact ⟨hA.1, hA.2.1, hA.2.2.1, up2_s, hA.2.2.2.2⟩, fun c hc => ?_, fun t ht => ?_, fun t c ht hc => ?_⟩
  · rw [e1] at hc
    have h9 := hB c hc
    rw [upN_n (j := 5 + 6 * c + 0) (by omega), upN_n (j := 5 + 6 * c + 1) (by omega), upN_n (j := 5 + 6 * c + 2) (by omega), upN_n (j := 5 + 6 * c + 3) (by omega), upN_n (j := 5 + 6 * c + 4) (by omega), upN_n (j := 5 + 6 * c + 5) (by omega)]
    exact h9
  · rw [e2] at ht
    have h9 := hC t ht
    rw [upN_n (j := 65 + 5 * t + 0) (by omega), upN_n (j := 65 + 5 * t + 1) (by omega), upN_n (j := 65 + 5 * t + 2) (by omega), upN_n (j := 65 + 5 * t + 3) (by omega), upN_n (j := 65 + 5 * t + 4) (by omega)]
    exact h9
  · rw [e2] at ht
    rw [upN_n (by omega)]
    exact hE t c ht hc
theorem Rp.add (h : Rp g σ) (h10 : σ 1 ≤ 10) (h5 : σ 2 ≤ 5) {x : Nat} : Rp (up2 g 4 0 x) (upN σ (4) x) := by
  obtain ⟨hA, hB, hC, hE⟩ := h
  have e0 : upN σ (4) x 0 = σ 0 := upN_n (by omega)
  have e1 : upN σ (4) x 1 = σ 1 := upN_n (by omega)
  have e2 : upN σ (4) x 2 = σ 2 := upN_n (by omega)
  have e3 : upN σ (4) x 3 = σ 3 := upN_n (by omega)
  have e4 : upN σ (4) x 4 = x := upN_s
  refine ⟨by rw [e0, e1, e2, e3, e4]; exact ⟨hA.1, hA.2.1, hA.2.2.1, hA.2.2.2.1, up2_s⟩, fun c hc => ?_, fun t ht => ?_, fun t c ht hc => ?_⟩
  · rw [e1] at hc
    have h9 := hB c hc
    rw [upN_n (j := 5 + 6 * c + 0) (by omega), upN_n (j := 5 + 6 * c + 1) (by omega), upN_n (j := 5 + 6 * c + 2) (by omega), upN_n (j := 5 + 6 * c + 3) (by omega), upN_n (j := 5 + 6 * c + 4) (by omega), upN_n (j := 5 + 6 * c + 5) (by omega)]
    exact h9
  · rw [e2] at ht
    have h9 := hC t ht
    rw [upN_n (j := 65 + 5 * t + 0) (by omega), upN_n (j := 65 + 5 * t + 1) (by omega), upN_n (j := 65 + 5 * t + 2) (by omega), upN_n (j := 65 + 5 * t + 3) (by omega), upN_n (j := 65 + 5 * t + 4) (by omega)]
    exact h9
  · rw [e2] at ht
    rw [upN_n (by omega)]
    exact hE t c ht hc
/-- a change that moves no train keeps the occupants -/
theorem Rep.of {g' : Nat → Nat → Nat} {τ : Nat → Nat} (h : Rep g σ) (hp : Rp g' τ) (ho : g' 10 = g 10) (h1 : τ 1 = σ 1) (h2 : τ 2 = σ 2) (hq : ∀ t, t < σ 2 → τ (65 + 5 * t + 2) = σ (65 + 5 * t + 2)) : Rep g' τ :=
  ⟨hp, fun b hb => by rw [ho, h.2 b (by rw [← h1]; exact hb), trAt_ext h2 hq b]⟩
end ACC
end PURE11
