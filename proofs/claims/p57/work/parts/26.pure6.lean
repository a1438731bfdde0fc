section PURE6
def isLt (x : Int32) : Bool := inI x (nI 97) (nI 122)
def isDg (x : Int32) : Bool := inI x (nI 48) (nI 57)
def isSp (x : Int32) : Bool := decide (x = nI 32) || decide (x = nI 10)
/-- the end of the run of such bytes, from p on, at most f of them -/
def scn (P : Int32 → Bool) (ip : Nat → Int32) : Nat → Nat → Nat
  | 0, p => p
  | f + 1, p => if P (ip p) = true then scn P ip f (p + 1) else p
theorem scn_ge (P : Int32 → Bool) (ip : Nat → Int32) : ∀ f p, p ≤ scn P ip f p
  | 0, p => Nat.le_refl _
  | f + 1, p => by
    have := scn_ge P ip f (p + 1)
    simp only [scn]
    split <;> omega
theorem scn_le (P : Int32 → Bool) (ip : Nat → Int32) : ∀ f p, scn P ip f p ≤ p + f
  | 0, p => Nat.le_refl _
  | f + 1, p => by
    have := scn_le P ip f (p + 1)
    simp only [scn]
    split <;> omega
theorem scn_all (P : Int32 → Bool) (ip : Nat → Int32) : ∀ f p j, p ≤ j → j < scn P ip f p → P (ip j) = true
  | 0, p, j, h1, h2 => by simp only [scn] at h2; omega
  | f + 1, p, j, h1, h2 => by
    simp only [scn] at h2
    split at h2
    · rename_i hp
      rcases Nat.lt_or_ge p j with h | h
      · exact scn_all P ip f (p + 1) j h h2
      · have : j = p := by omega
        subst this
        exact hp
    · omega
theorem scn_stop (P : Int32 → Bool) (ip : Nat → Int32) : ∀ f p, scn P ip f p < p + f → P (ip (scn P ip f p)) = false
  | 0, p, h => by simp only [scn] at h; omega
  | f + 1, p, h => by
    simp only [scn] at h ⊢
    split
    · rename_i hp
      rw [if_pos hp] at h
      exact scn_stop P ip f (p + 1) (by omega)
    · rename_i hp
      cases hq : P (ip p) with
      | false => rfl
      | true => exact absurd hq hp
theorem scn_go {P : Int32 → Bool} {ip : Nat → Int32} {n p : Nat} (h : p < n) (hp : P (ip p) = true) : scn P ip (n - p) p = scn P ip (n - (p + 1)) (p + 1) := by
  rw [show n - p = n - (p + 1) + 1 by omega]
  simp only [scn]
  rw [if_pos hp]
theorem scn_no {P : Int32 → Bool} {ip : Nat → Int32} {n p : Nat} (hp : n ≤ p ∨ P (ip p) = false) : scn P ip (n - p) p = p := by
  cases hq : n - p with
  | zero => rfl
  | succ f =>
    simp only [scn]
    rcases hp with hp | hp
    · omega
    · rw [hp]
      rfl
def dgN (x : Int32) : Nat := x.toNatClampNeg - 48
theorem isDg_of {x : Int32} (h : isDg x = true) : ∃ d, 48 ≤ d ∧ d ≤ 57 ∧ x = nI d := inI_of (by decide) (by decide) h
theorem dgN_nI {d : Nat} (h : d < 2147483648) : dgN (nI d) = d - 48 := by
  simp only [dgN]
  rw [nI_clamp h]
/-- the number that c digits from f on are -/
def numV (ip : Nat → Int32) (f : Nat) : Nat → Nat
  | 0 => 0
  | c + 1 => 10 * numV ip f c + dgN (ip (f + c))
theorem dgN_le {x : Int32} (h : isDg x = true) : dgN x ≤ 9 := by
  obtain ⟨d, h1, h2, rfl⟩ := isDg_of h
  rw [dgN_nI (by omega)]
  omega
theorem numV_le {ip : Nat → Int32} {f : Nat} : ∀ c, (∀ j, j < c → isDg (ip (f + j)) = true) → numV ip f c < 10 ^ c
  | 0, _ => Nat.one_pos
  | c + 1, h => by
    have h1 := numV_le c (fun j hj => h j (by omega))
    have h2 := dgN_le (h c (by omega))
    simp only [numV]
    rw [Nat.pow_succ]
    omega
/-- a token: its kind, its first byte, its end -/
abbrev Tok : Type := Nat × Nat × Nat
def tkF (ip : Nat → Int32) (n p : Nat) : Nat := scn isSp ip (n - p) p
def tkT (ip : Nat → Int32) (n p : Nat) : Nat :=
  if tkF ip n p = n then tkF ip n p else if isLt (ip (tkF ip n p)) = true then scn isLt ip (n - tkF ip n p) (tkF ip n p) else if isDg (ip (tkF ip n p)) = true then scn isDg ip (n - tkF ip n p) (tkF ip n p) else tkF ip n p + 1
def tkG (ip : Nat → Int32) (n k p : Nat) : Bool := (decide (k = 1) || decide (k = 2)) && decide (tkF ip n p = p)
def tkK (ip : Nat → Int32) (n k p : Nat) : Nat :=
  if tkF ip n p = n then 0 else if isLt (ip (tkF ip n p)) = true then (if tkG ip n k p = true then 4 else 1) else if isDg (ip (tkF ip n p)) = true then (if tkG ip n k p = true ∨ 3 < tkT ip n p - tkF ip n p then 4 else 2) else if ip (tkF ip n p) = nI 59 then 3 else 4
def nxT (ip : Nat → Int32) (n : Nat) (T : Tok) : Tok := (tkK ip n T.1 T.2.2, tkF ip n T.2.2, tkT ip n T.2.2)
theorem tkF_le {ip : Nat → Int32} {n p : Nat} (h : p ≤ n) : tkF ip n p ≤ n := by
  have := scn_le isSp ip (n - p) p
  simp only [tkF]
  omega
theorem tkF_ge {ip : Nat → Int32} {n p : Nat} : p ≤ tkF ip n p := scn_ge isSp ip (n - p) p
theorem tkT_le {ip : Nat → Int32} {n p : Nat} (h : p ≤ n) : tkT ip n p ≤ n := by
  have h1 := tkF_le (ip := ip) h
  have h2 := scn_le isLt ip (n - tkF ip n p) (tkF ip n p)
  have h3 := scn_le isDg ip (n - tkF ip n p) (tkF ip n p)
  simp only [tkT]
  split
  · omega
  split
  · omega
  split
  · omega
  · omega
theorem tkT_ge {ip : Nat → Int32} {n p : Nat} : tkF ip n p ≤ tkT ip n p := by
  have h2 := scn_ge isLt ip (n - tkF ip n p) (tkF ip n p)
  have h3 := scn_ge isDg ip (n - tkF ip n p) (tkF ip n p)
  simp only [tkT]
  split
  · omega
  split
  · omega
  split
  · omega
  · omega
theorem tkT_gt {ip : Nat → Int32} {n p k : Nat} (h : p ≤ n) (hk : tkK ip n k p ≠ 0) : tkF ip n p < tkT ip n p := by
  have h1 := tkF_le (ip := ip) h
  simp only [tkK] at hk
  split at hk
  · exact absurd rfl hk
  · rename_i hne
    simp only [tkT]
    rw [if_neg hne]
    split
    · rename_i hl
      rw [scn_go (by omega) hl]
      have := scn_ge isLt ip (n - (tkF ip n p + 1)) (tkF ip n p + 1)
      omega
    · split
      · rename_i hl
        rw [scn_go (by omega) hl]
        have := scn_ge isDg ip (n - (tkF ip n p + 1)) (tkF ip n p + 1)
        omega
      · omega
theorem tkK_le (ip : Nat → Int32) (n k p : Nat) : tkK ip n k p ≤ 4 := by
  simp only [tkK]
  split
  · omega
  split
  · split <;> omega
  split
  · split <;> omega
  split <;> omega
/-- a number's digits are at most three, and are digits -/
theorem tkK_2 {ip : Nat → Int32} {n k p : Nat} (h : tkK ip n k p = 2) : tkT ip n p - tkF ip n p ≤ 3 ∧ ∀ j, tkF ip n p ≤ j → j < tkT ip n p → isDg (ip j) = true := by
  have hT : tkT ip n p = tkT ip n p := rfl
  simp only [tkK] at h
  split at h
  · omega
  rename_i h1
  split at h
  · split at h <;> omega
  rename_i h2
  split at h
  · rename_i h3
    split at h
    · omega
    · rename_i h4
      refine ⟨by omega, fun j ha hb => ?_⟩
      simp only [tkT] at hb
      rw [if_neg h1, if_neg h2, if_pos h3] at hb
      exact scn_all isDg ip _ _ j ha hb
  · split at h <;> omega
theorem tkK_1 {ip : Nat → Int32} {n k p : Nat} (h : tkK ip n k p = 1) : ∀ j, tkF ip n p ≤ j → j < tkT ip n p → isLt (ip j) = true := by
  simp only [tkK] at h
  split at h
  · omega
  rename_i h1
  split at h
  · rename_i h2
    split at h
    · omega
    · intro j ha hb
      simp only [tkT] at hb
      rw [if_neg h1, if_pos h2] at hb
      exact scn_all isLt ip _ _ j ha hb
  split at h
  · split at h <;> omega
  · split at h <;> omega
def allL (P : Nat → Bool) : Nat → Bool
  | 0 => true
  | n + 1 => allL P n && P n
theorem allL_f {P : Nat → Bool} {k : Nat} (h : P k = false) : ∀ n, k < n → allL P n = false
  | 0, hk => by omega
  | n + 1, hk => by
    simp only [allL]
    rcases Nat.lt_or_ge k n with h2 | h2
    · rw [allL_f h n h2]
      rfl
    · have : k = n := by omega
      subst this
      rw [h]
      exact Bool.and_false _
theorem allL_t {P : Nat → Bool} : ∀ n, allL P n = true → ∀ k, k < n → P k = true
  | 0, _, k, hk => by omega
  | n + 1, h, k, hk => by
    simp only [allL, Bool.and_eq_true] at h
    rcases Nat.lt_or_ge k n with h2 | h2
    · exact allL_t n h.1 k h2
    · have : k = n := by omega
      subst this
      exact h.2
theorem allL_i {P : Nat → Bool} : ∀ n, (∀ k, k < n → P k = true) → allL P n = true
  | 0, _ => rfl
  | n + 1, h => by
    simp only [allL, Bool.and_eq_true]
    exact ⟨allL_i n (fun k hk => h k (by omega)), h n (by omega)⟩
/-- the token is the key's word -/
def kyB (i : Nat) (ip : Nat → Int32) (f t k : Nat) : Bool := decide ((if k < t - f then ip (f + k) else nI 0) = nI (kyF (7 * i + k)))
def kyM (i : Nat) (ip : Nat → Int32) (T : Tok) : Bool := if T.1 = 1 ∧ T.2.2 - T.2.1 ≤ 7 then allL (kyB i ip T.2.1 T.2.2) 7 else false
/-- the token as the scalars hold it -/
def TV (ip : Nat → Int32) (n : Nat) (v : Nat → Nat) (T : Tok) : Prop :=
  v 14 = n ∧ v 15 = T.1 ∧ v 16 = T.2.1 ∧ v 17 = T.2.2 ∧ (T.1 = 2 → v 18 = numV ip T.2.1 (T.2.2 - T.2.1) ∧ v 18 ≤ 999) ∧ T.2.2 ≤ n ∧ T.2.1 ≤ T.2.2 ∧ T.1 ≤ 4
/-- .. as far as the next token asks -/
def TV0 (n : Nat) (v : Nat → Nat) (T : Tok) : Prop := v 14 = n ∧ v 15 = T.1 ∧ v 17 = T.2.2 ∧ T.2.2 ≤ n ∧ T.1 ≤ 4
theorem TV.w {ip : Nat → Int32} {n : Nat} {v : Nat → Nat} {T : Tok} (h : TV ip n v T) : TV0 n v T := ⟨h.1, h.2.1, h.2.2.2.1, h.2.2.2.2.2.1, h.2.2.2.2.2.2.2⟩
def Fz (v v' : Nat → Nat) : Prop := ∀ j, j < 15 → v' j = v j
end PURE6
