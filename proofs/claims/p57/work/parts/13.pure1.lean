section PURE1
/-- the first of the trains k, k+1 .. (n of them) that stands in block b, plus 1; 0: none -/
def trL (σ : Nat → Nat) (b : Nat) : Nat → Nat → Nat
  | 0, _ => 0
  | n + 1, k => if σ (65 + 5 * k + 2) = b then k + 1 else trL σ b n (k + 1)
def trAt (σ : Nat → Nat) (b : Nat) : Nat := trL σ b (σ 2) 0
theorem trL_le (σ : Nat → Nat) (b : Nat) : ∀ n k, trL σ b n k ≤ k + n
  | 0, k => by simp [trL]
  | n + 1, k => by
    have := trL_le σ b n (k + 1)
    simp only [trL]
    split <;> omega
theorem trAt_le (σ : Nat → Nat) (b : Nat) : trAt σ b ≤ σ 2 := by
  have := trL_le σ b (σ 2) 0
  simp only [trAt]
  omega
theorem trL_some (σ : Nat → Nat) (b : Nat) : ∀ n k, 0 < trL σ b n k → k < trL σ b n k ∧ σ (65 + 5 * (trL σ b n k - 1) + 2) = b
  | 0, k => by simp [trL]
  | n + 1, k => by
    have := trL_some σ b n (k + 1)
    simp only [trL]
    split
    · intro _
      refine ⟨by omega, ?_⟩
      rw [Nat.add_sub_cancel]
      assumption
    · intro h
      obtain ⟨h1, h2⟩ := this h
      exact ⟨by omega, h2⟩
theorem trL_none (σ : Nat → Nat) (b : Nat) : ∀ n k, trL σ b n k = 0 → ∀ j, k ≤ j → j < k + n → σ (65 + 5 * j + 2) ≠ b
  | 0, k => by intro _ j h1 h2; omega
  | n + 1, k => by
    have := trL_none σ b n (k + 1)
    simp only [trL]
    split
    · intro h; omega
    · intro h j h1 h2
      rcases Nat.lt_or_ge k j with h3 | h3
      · exact this h j h3 (by omega)
      · have : j = k := by omega
        subst this
        assumption
/-- a block is occupied -/
def occ (σ : Nat → Nat) (b : Nat) : Bool := if 0 < trAt σ b then true else decide (0 < σ (5 + 6 * b + 5))
def aft (σ : Nat → Nat) (b : Nat) : Nat := if b + 1 = σ 1 then 0 else b + 1
theorem aft_lt {σ : Nat → Nat} {b : Nat} (h : b < σ 1) : aft σ b < σ 1 := by
  simp only [aft]
  split <;> omega
/-- the first reason against pulling a lever -/
def rsn (σ : Nat → Nat) (b : Nat) : Nat :=
  if 0 < trAt σ b then 1 else if 0 < σ (5 + 6 * b + 5) then 2 else if σ (5 + 6 * b + 4) = 1 then 3 else if σ (5 + 6 * b + 3) = 1 then (if occ σ (aft σ b) = true then 4 else 0) else 0
def spd (σ : Nat → Nat) (t : Nat) : Nat :=
  if σ (65 + 5 * t + 1) < σ (5 + 6 * σ (65 + 5 * t + 2) + 2) then σ (65 + 5 * t + 1) else σ (5 + 6 * σ (65 + 5 * t + 2) + 2)
/-- sums over 0 .. n-1 -/
def sumL (f : Nat → Nat) : Nat → Nat
  | 0 => 0
  | n + 1 => sumL f n + f n
theorem sumL_congr {f g : Nat → Nat} : ∀ n, (∀ k, k < n → f k = g k) → sumL f n = sumL g n
  | 0, _ => rfl
  | n + 1, h => by
    show sumL f n + f n = sumL g n + g n
    rw [sumL_congr n (fun k hk => h k (by omega)), h n (by omega)]
theorem sumL_le {f : Nat → Nat} (M : Nat) : ∀ n, (∀ k, k < n → f k ≤ M) → sumL f n ≤ n * M
  | 0, _ => by simp [sumL]
  | n + 1, h => by
    have h1 := sumL_le M n (fun k hk => h k (by omega))
    have h2 := h n (by omega)
    show sumL f n + f n ≤ (n + 1) * M
    rw [Nat.add_mul, Nat.one_mul]
    omega
def atE (σ : Nat → Nat) (t : Nat) : Bool := decide (σ (65 + 5 * t + 3) = σ (5 + 6 * σ (65 + 5 * t + 2) + 0))
def mayE (σ : Nat → Nat) (t : Nat) : Bool := if σ (5 + 6 * aft σ (σ (65 + 5 * t + 2)) + 4) = 1 then !occ σ (aft σ (σ (65 + 5 * t + 2))) else false
/-- a train leaves its block -/
def lvs1 (σ : Nat → Nat) (t b : Nat) : Nat → Nat :=
  if 7 ≤ σ (5 + 6 * b + 1) ∧ 3 ≤ spd σ t ∧ 1 < σ (65 + 5 * t + 0) then
    upN (upN σ (65 + 5 * t + 0) (σ (65 + 5 * t + 0) - 1)) (5 + 6 * b + 5) (σ (5 + 6 * b + 5) + 1)
  else σ
def lvs2 (σ : Nat → Nat) (t b : Nat) : Nat → Nat :=
  upN (upN σ (5 + 6 * b + 1) (if 9 < σ (5 + 6 * b + 1) + 1 + σ (65 + 5 * t + 0) / 4 then 9 else σ (5 + 6 * b + 1) + 1 + σ (65 + 5 * t + 0) / 4)) (90 + 10 * t + b) (σ (90 + 10 * t + b) + 1)
def lvs (σ : Nat → Nat) (t : Nat) : Nat → Nat := lvs2 (lvs1 σ t (σ (65 + 5 * t + 2))) t (σ (65 + 5 * t + 2))
/-- a train moves: its new position first -/
def mv1 (σ : Nat → Nat) (t : Nat) : Nat → Nat :=
  upN σ (65 + 5 * t + 3) (if σ (5 + 6 * σ (65 + 5 * t + 2) + 0) < σ (65 + 5 * t + 3) + spd σ t then σ (5 + 6 * σ (65 + 5 * t + 2) + 0) else σ (65 + 5 * t + 3) + spd σ t)
def mv2 (σ : Nat → Nat) (t n : Nat) : Nat → Nat := upN (upN (upN σ (65 + 5 * t + 2) n) (65 + 5 * t + 3) 0) (5 + 6 * n + 4) 0
def mvE (σ : Nat → Nat) (t : Nat) : Bool := atE (mv1 σ t) t && mayE (mv1 σ t) t
def mvS (σ : Nat → Nat) (t : Nat) : Nat → Nat :=
  if atE (mv1 σ t) t = true then
    (if mayE (mv1 σ t) t = true then mv2 (lvs (mv1 σ t) t) t (aft (lvs (mv1 σ t) t) (lvs (mv1 σ t) t (65 + 5 * t + 2))) else upN (mv1 σ t) (65 + 5 * t + 4) (mv1 σ t (65 + 5 * t + 4) + 1))
  else mv1 σ t
/-- the trains k .. move (n of them): the state, how many entered -/
def mvLS : Nat → Nat → (Nat → Nat) → (Nat → Nat)
  | 0, _, σ => σ
  | n + 1, k, σ => mvLS n (k + 1) (mvS σ k)
def mvLE : Nat → Nat → (Nat → Nat) → Nat
  | 0, _, _ => 0
  | n + 1, k, σ => (mvE σ k).toNat + mvLE n (k + 1) (mvS σ k)
def tkS (σ : Nat → Nat) : Nat → Nat := mvLS (σ 2) 0 (upN σ 0 (σ 0 + 1))
def tkE (σ : Nat → Nat) : Nat := mvLE (σ 2) 0 (upN σ 0 (σ 0 + 1))
def psS : Nat → (Nat → Nat) → (Nat → Nat)
  | 0, σ => σ
  | n + 1, σ => psS n (tkS σ)
def psE : Nat → (Nat → Nat) → Nat
  | 0, _ => 0
  | n + 1, σ => tkE σ + psE n (tkS σ)
/-- the walk's own bounds: every count up to M, every train in one of ten blocks -/
def Bd (M : Nat) (σ : Nat → Nat) : Prop :=
  20 ≤ M ∧ M < 1073741824 ∧ σ 0 ≤ M ∧ σ 1 ≤ 10 ∧ σ 2 ≤ 5 ∧ (∀ j, 5 ≤ j → j < 140 → σ j ≤ M) ∧ (∀ t, t < σ 2 → σ (65 + 5 * t + 2) < σ 1)
theorem Bd.j {M : Nat} {σ : Nat → Nat} (h : Bd M σ) {j : Nat} (h1 : 5 ≤ j) (h2 : j < 140) : σ j ≤ M := h.2.2.2.2.2.1 j h1 h2
theorem Bd.p {M : Nat} {σ : Nat → Nat} (h : Bd M σ) {t : Nat} (h1 : t < σ 2) : σ (65 + 5 * t + 2) < σ 1 := h.2.2.2.2.2.2 t h1
theorem Bd.up {M : Nat} {σ : Nat → Nat} (h : Bd M σ) {k x : Nat} (hk : 5 ≤ k) (hx : x ≤ M) (hp : ∀ t, t < σ 2 → k = 65 + 5 * t + 2 → x < σ 1) : Bd M (upN σ k x) := by
  obtain ⟨h1, h2, h3, h4, h5, h6, h7⟩ := h
  refine ⟨h1, h2, ?_, ?_, ?_, fun j ha hb => ?_, fun t ht => ?_⟩
  · rw [upN_n (by omega)]; exact h3
  · rw [upN_n (by omega)]; exact h4
  · rw [upN_n (by omega)]; exact h5
  · rw [upN_if]
    split
    · exact hx
    · exact h6 j ha hb
  · rw [upN_n (by omega)] at ht
    rw [upN_if, upN_n (j := 1) (by omega)]
    split
    · rename_i e
      exact hp t ht e.symm
    · exact h7 t ht
theorem Bd.mono {M N : Nat} {σ : Nat → Nat} (h : Bd M σ) (h1 : M ≤ N) (h2 : N < 1073741824) : Bd N σ := by
  obtain ⟨a1, a2, a3, a4, a5, a6, a7⟩ := h
  exact ⟨by omega, h2, by omega, a4, a5, fun j ha hb => Nat.le_trans (a6 j ha hb) h1, a7⟩
theorem Bd.up0 {M : Nat} {σ : Nat → Nat} (h : Bd M σ) {x : Nat} (hx : x ≤ M) : Bd M (upN σ 0 x) := by
  obtain ⟨h1, h2, h3, h4, h5, h6, h7⟩ := h
  refine ⟨h1, h2, ?_, ?_, ?_, fun j ha hb => ?_, fun t ht => ?_⟩
  · rw [upN_s]; exact hx
  · rw [upN_n (by decide)]; exact h4
  · rw [upN_n (by decide)]; exact h5
  · rw [upN_n (by omega)]; exact h6 j ha hb
  · rw [upN_n (by decide)] at ht
    rw [upN_n (by omega), upN_n (by decide)]; exact h7 t ht
theorem spd_le {M : Nat} {σ : Nat → Nat} (h : Bd M σ) {t : Nat} (ht : t < σ 2) : spd σ t ≤ M := by
  have h1 := h.p ht
  have h0 := h.2.2.2.1
  have h9 := h.2.2.2.2.1
  have h2 : σ (65 + 5 * t + 1) ≤ M := h.j (by omega) (by omega)
  have h3 : σ (5 + 6 * σ (65 + 5 * t + 2) + 2) ≤ M := h.j (by omega) (by omega)
  simp only [spd]
  split <;> assumption
theorem rsn_le (σ : Nat → Nat) (b : Nat) : rsn σ b ≤ 4 := by
  simp only [rsn]
  split
  · omega
  split
  · omega
  split
  · omega
  split
  · split <;> omega
  · omega
end PURE1
