section PURE4
/-- the changes that can be undone, oldest first: one more -/
def rmH (h : Nat → Nat → Nat) (n : Nat) (σ : Nat → Nat) : Nat → Nat → Nat := fun i => if n = 10 then (if i = 9 then σ else h (i + 1)) else if i = n then σ else h i
def rmN (n : Nat) : Nat := if n = 10 then 10 else n + 1
def fgF (od : Nat → Nat) : Nat → Nat := fun j => if j < 1260 then od (j + 140) else od j
theorem rm_1 {τ σ : Nat → Nat} {h : Nat → Nat → Nat} {n : Nat} (hn : n ≠ 10) (q : ∀ j, τ j = if n * 140 ≤ j ∧ j < n * 140 + 140 then σ (j - n * 140) else hiF h j) : ∀ j, j < 1400 → τ j = hiF (rmH h n σ) j := by
  intro j hj
  rw [q j]
  simp only [hiF, rmH]
  rw [if_neg hn]
  by_cases h2 : n * 140 ≤ j ∧ j < n * 140 + 140
  · rw [if_pos h2, if_pos (by omega), show j - n * 140 = j % 140 by omega]
  · rw [if_neg h2, if_neg (by omega)]
theorem rm_2 {τ σ : Nat → Nat} {h : Nat → Nat → Nat} {n m : Nat} (hn : n = 10) (hm : m = 9) (q : ∀ j, τ j = if m * 140 ≤ j ∧ j < m * 140 + 140 then σ (j - m * 140) else fgF (hiF h) j) : ∀ j, j < 1400 → τ j = hiF (rmH h n σ) j := by
  intro j hj
  subst hm
  rw [q j]
  simp only [hiF, rmH, fgF]
  rw [if_pos hn]
  by_cases h2 : 9 * 140 ≤ j ∧ j < 9 * 140 + 140
  · rw [if_pos h2, if_pos (by omega), show j - 9 * 140 = j % 140 by omega]
  · rw [if_neg h2, if_pos (by omega), if_neg (by omega), show (j + 140) / 140 = j / 140 + 1 by omega, show (j + 140) % 140 = j % 140 by omega]
theorem fg_step {τ od : Nat → Nat} {k i x : Nat} (h140 : 140 ≤ k) (h : ∀ j, τ j = if j + 140 < k then od (j + 140) else od j) (hi : i = k - 140) (hx : x = τ k) (j : Nat) : upN τ i x j = if j + 140 < k + 1 then od (j + 140) else od j := by
  rw [upN_if, h j]
  by_cases hj : j = i
  · rw [if_pos hj, if_pos (by omega), hx, h k, if_neg (by omega), show j + 140 = k by omega]
  · rw [if_neg hj]
    by_cases h2 : j + 140 < k
    · rw [if_pos h2, if_pos (by omega)]
    · rw [if_neg h2, if_neg (by omega)]
theorem fg_end {τ od : Nat → Nat} {k : Nat} (hk : k = 1400) (h : ∀ j, τ j = if j + 140 < k then od (j + 140) else od j) : ∀ j, j < 1400 → τ j = fgF od j := by
  intro j hj
  rw [h j]
  simp only [fgF]
  by_cases q : j + 140 < k
  · rw [if_pos q, if_pos (by omega)]
  · rw [if_neg q, if_neg (by omega)]
def layS (σ : Nat → Nat) (l d li be : Nat) : Nat → Nat :=
  upN (upN (upN (upN (upN (upN (upN σ (5 + 6 * σ 1 + 0) l) (5 + 6 * σ 1 + 1) d) (5 + 6 * σ 1 + 2) li) (5 + 6 * σ 1 + 3) be) (5 + 6 * σ 1 + 4) 0) (5 + 6 * σ 1 + 5) 0) 1 (σ 1 + 1)
def setS (σ : Nat → Nat) (b w tp : Nat) : Nat → Nat :=
  upN (upN (upN (upN (upN (upN (upN σ (65 + 5 * σ 2 + 0) w) (65 + 5 * σ 2 + 1) tp) (65 + 5 * σ 2 + 2) b) (65 + 5 * σ 2 + 3) 0) (65 + 5 * σ 2 + 4) 0) 4 (σ 4 + w)) 2 (σ 2 + 1)
theorem fdL_mono (σ : Nat → Nat) (b : Nat) {n : Nat} (h : fdL σ b n = false) : ∀ m, n ≤ m → fdL σ b m = false
  | 0, hm => by
    have : n = 0 := by omega
    subst this
    exact h
  | m + 1, hm => by
    rcases Nat.lt_or_ge n (m + 1) with h1 | h1
    · simp only [fdL]
      rw [fdL_mono σ b h m (by omega)]
      rfl
    · have : n = m + 1 := by omega
      subst this
      exact h
/-- how far ahead p lies of b on the ring -/
def dst (σ : Nat → Nat) (p b : Nat) : Nat := if b ≤ p then p - b else p + σ 1 - b
theorem dst_aft {σ : Nat → Nat} {p b : Nat} (hp : p < σ 1) (hb : b < σ 1) (hne : b ≠ p) : dst σ p (aft σ b) + 1 = dst σ p b := by
  simp only [dst, aft]
  split <;> split <;> split <;> omega
theorem trAt_pos {σ : Nat → Nat} {t : Nat} (ht : t < σ 2) : 0 < trAt σ (σ (65 + 5 * t + 2)) := by
  rcases Nat.eq_zero_or_pos (trAt σ (σ (65 + 5 * t + 2))) with h | h
  · exact absurd rfl (trL_none σ _ (σ 2) 0 h t (Nat.zero_le _) (by omega))
  · exact h
theorem occ_pl {σ : Nat → Nat} {t : Nat} (ht : t < σ 2) : occ σ (σ (65 + 5 * t + 2)) = true := by
  simp only [occ]
  rw [if_pos (trAt_pos ht)]
def ahB (σ : Nat → Nat) (t : Nat) : Nat := ahd σ (dst σ (σ (65 + 5 * t + 2)) (aft σ (σ (65 + 5 * t + 2)))) (aft σ (σ (65 + 5 * t + 2)))
def ahT (σ : Nat → Nat) (t : Nat) : Nat := if trAt σ (ahB σ t) = t + 1 then 0 else trAt σ (ahB σ t)
def cbA (σ : Nat → Nat) (t : Nat) : Nat := cbL σ (dst σ (σ (65 + 5 * t + 2)) (aft σ (σ (65 + 5 * t + 2))) + 1) (aft σ (σ (65 + 5 * t + 2)))
def abI (x : Int32) : Int32 := if 0 ≤ x then x else 0 - x
theorem abI_neg (x : Int32) (h : ¬ 0 ≤ x) : abI x = -x := by
  simp only [abI]
  rw [if_neg h]
  exact Int32.zero_sub x
theorem abI_pos (x : Int32) (h : 0 ≤ x) : abI x = x := by
  simp only [abI]
  rw [if_pos h]
end PURE4
