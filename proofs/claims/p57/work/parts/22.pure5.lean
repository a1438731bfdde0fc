section PURE5
def wPut (q : (Nat → Nat) × Nat) (x : Nat) : (Nat → Nat) × Nat := (upN q.1 q.2 x, q.2 + 1)
def wNum (q : (Nat → Nat) × Nat) (n : Nat) : (Nat → Nat) × Nat := if 9 < n then wPut (wPut q (48 + n / 10)) (48 + n % 10) else wPut q (48 + n % 10)
def wRep (q : (Nat → Nat) × Nat) : Nat → (Nat → Nat) × Nat
  | 0 => q
  | n + 1 => wPut (wRep q n) 119
def wBk2 (σ : Nat → Nat) (q : (Nat → Nat) × Nat) (b : Nat) : (Nat → Nat) × Nat :=
  wPut (wPut q (if σ (5 + 6 * b + 4) = 1 then 43 else 45)) (if trAt σ b = 0 then 95 else 48 + (trAt σ b - 1))
def wBlk (σ : Nat → Nat) (q : (Nat → Nat) × Nat) (b : Nat) : (Nat → Nat) × Nat := wRep (wBk2 σ q b) (σ (5 + 6 * b + 5))
def wRing (σ : Nat → Nat) (q : (Nat → Nat) × Nat) : Nat → (Nat → Nat) × Nat
  | 0 => q
  | n + 1 => wBlk σ (wRing σ q n) n
def wTrn (σ : Nat → Nat) (q : (Nat → Nat) × Nat) (t : Nat) : (Nat → Nat) × Nat :=
  wPut (wNum (wPut (wNum (wPut (wNum (wPut (wNum q (σ (65 + 5 * t + 2))) 58) (σ (65 + 5 * t + 3))) 47) (σ (5 + 6 * σ (65 + 5 * t + 2) + 0))) 32) (σ (65 + 5 * t + 0))) 119
theorem wNum_2 (q : (Nat → Nat) × Nat) (n : Nat) : (wNum q n).2 ≤ q.2 + 2 := by
  simp only [wNum]
  split <;> simp only [wPut] <;> omega
theorem wRep_2 (q : (Nat → Nat) × Nat) : ∀ n, (wRep q n).2 = q.2 + n
  | 0 => rfl
  | n + 1 => by
    show (wRep q n).2 + 1 = _
    rw [wRep_2 q n]
    omega
def fdF (ip : Nat → Int32) (n : Nat) (x : Int32) : Nat → Int32 :=
  upd (upd (upd (upd ip n (x >>> (nI 24 &&& 31)).toInt8.toInt32) (n + 1) (x >>> (nI 16 &&& 31)).toInt8.toInt32) (n + 2) (x >>> (nI 8 &&& 31)).toInt8.toInt32) (n + 3) x.toInt8.toInt32
def svH (s2 : Nat → Nat → Nat) (k : Nat) (σ : Nat → Nat) : Nat → Nat → Nat := fun i => if i = k then σ else s2 i
theorem hi_at (s2 : Nat → Nat → Nat) {k j : Nat} (hj : j < 140) : hiF s2 (k * 140 + j) = s2 k j := by
  simp only [hiF]
  rw [show (k * 140 + j) / 140 = k by omega, show (k * 140 + j) % 140 = j by omega]
theorem sv_end {τ σ : Nat → Nat} {s2 : Nat → Nat → Nat} {n : Nat} (q : ∀ j, τ j = if n * 140 ≤ j ∧ j < n * 140 + 140 then σ (j - n * 140) else hiF s2 j) : ∀ j, j < 280 → τ j = hiF (svH s2 n σ) j := by
  intro j hj
  rw [q j]
  simp only [hiF, svH]
  by_cases h2 : n * 140 ≤ j ∧ j < n * 140 + 140
  · rw [if_pos h2, if_pos (by omega), show j - n * 140 = j % 140 by omega]
  · rw [if_neg h2, if_neg (by omega)]
theorem inI_yes {n a b : Nat} (h1 : a ≤ n) (h2 : n ≤ b) (hb : b < 2147483648) : inI (nI n) (nI a) (nI b) = true := by
  simp only [inI, Bool.and_eq_true, decide_eq_true_eq]
  exact ⟨nI_le h1 (by omega), nI_le h2 hb⟩
theorem inI_of {a b : Nat} {x : Int32} (ha : a < 2147483648) (hb : b < 2147483648) (h : inI x (nI a) (nI b) = true) : ∃ n, a ≤ n ∧ n ≤ b ∧ x = nI n := by
  simp only [inI, Bool.and_eq_true, decide_eq_true_eq] at h
  obtain ⟨h1, h2⟩ := h
  have h0 : (0 : Int32) ≤ x := Int32.le_trans (nI_pos' ha) h1
  obtain ⟨k, hk, rfl⟩ := nI_of (x := x) (fun q => absurd h0 (Int32.not_le.mpr q))
  exact ⟨k, (nI_leI ha hk).mp h1, (nI_leI hk hb).mp h2, rfl⟩
/-- the train's wait comes within the ticks left: how many -/
def wtL (σ0 : Nat) (t : Nat) : Nat → (Nat → Nat) → Nat → (Nat → Nat) × Nat
  | 0, σ, c => (σ, c)
  | n + 1, σ, c => if σ (65 + 5 * t + 4) = σ0 then wtL σ0 t n (tkS σ) (c + 1) else (σ, c)
def wtR (σ : Nat → Nat) (t : Nat) : (Nat → Nat) × Nat := wtL (σ (65 + 5 * t + 4)) t 200 σ 0
def wtT (σ : Nat → Nat) (t : Nat) : Nat := if σ (65 + 5 * t + 4) < (wtR σ t).1 (65 + 5 * t + 4) then (wtR σ t).2 + 1 else 0
end PURE5
