section PURE12
/-- the reference's key word ki is the class's literal i -/
def kwP (ki i : Nat) : Prop := sLen.getD i 0 ≤ 7 ∧ ∀ k, k < 7 → (k < sLen.getD i 0 → kyF (7 * ki + k) = sCh i k ∧ 0 < sCh i k ∧ sCh i k < 128) ∧ (sLen.getD i 0 ≤ k → kyF (7 * ki + k) = 0)
theorem kwP_0 : kwP 0 1 := ⟨by decide +kernel, by decide +kernel⟩
theorem kwP_1 : kwP 1 2 := ⟨by decide +kernel, by decide +kernel⟩
theorem kwP_2 : kwP 2 3 := ⟨by decide +kernel, by decide +kernel⟩
theorem kwP_3 : kwP 3 4 := ⟨by decide +kernel, by decide +kernel⟩
theorem kwP_4 : kwP 4 6 := ⟨by decide +kernel, by decide +kernel⟩
theorem kwP_5 : kwP 5 7 := ⟨by decide +kernel, by decide +kernel⟩
theorem kwP_6 : kwP 6 8 := ⟨by decide +kernel, by decide +kernel⟩
theorem kwP_7 : kwP 7 5 := ⟨by decide +kernel, by decide +kernel⟩
theorem kw_yes {ki i : Nat} {tx : Nat → Int32} {T : Tok} (h : kwP ki i) (hl : T.1 = 1 → ∀ j, T.2.1 ≤ j → j < T.2.2 → isLt (tx j) = true) (hm : kyM ki tx T = true) : T.1 = 1 ∧ T.2.2 - T.2.1 = sLen.getD i 0 ∧ ∀ k, k < sLen.getD i 0 → tx (T.2.1 + k) = nI (sCh i k) := by
  simp only [kyM] at hm
  split at hm
  · rename_i h1
    have ha : ∀ k, k < 7 → (if k < T.2.2 - T.2.1 then tx (T.2.1 + k) else nI 0) = nI (kyF (7 * ki + k)) := fun k hk => of_decide_eq_true (allL_t 7 hm k hk)
    have hlen : T.2.2 - T.2.1 = sLen.getD i 0 := by
      rcases Nat.lt_trichotomy (T.2.2 - T.2.1) (sLen.getD i 0) with q | q | q
      · have h7 := h.1
        have h2 := (h.2 (T.2.2 - T.2.1) (by omega)).1 q
        have h3 := ha (T.2.2 - T.2.1) (by omega)
        rw [if_neg (by omega), h2.1] at h3
        have := (zq_eq (by decide) (by omega)).mp h3
        omega
      · exact q
      · have h2 := (h.2 (sLen.getD i 0) (by omega)).2 (Nat.le_refl _)
        have h3 := ha (sLen.getD i 0) (by omega)
        rw [if_pos q, h2] at h3
        have h4 := hl h1.1 (T.2.1 + sLen.getD i 0) (by omega) (by omega)
        rw [h3] at h4
        exact absurd h4 (by decide)
    refine ⟨h1.1, hlen, fun k hk => ?_⟩
    have h3 := ha k (by omega)
    rw [if_pos (by omega), ((h.2 k (by omega)).1 hk).1] at h3
    exact h3
  · cases hm
theorem kw_no {ki i : Nat} {tx : Nat → Int32} {T : Tok} (h : kwP ki i) (hm : kyM ki tx T = false) : T.1 = 1 → T.2.2 - T.2.1 = sLen.getD i 0 → ¬ ∀ k, k < sLen.getD i 0 → tx (T.2.1 + k) = nI (sCh i k) := by
  intro h1 h2 h3
  have h7 := h.1
  refine absurd hm ?_
  simp only [kyM]
  rw [if_pos ⟨h1, by omega⟩, allL_i 7 (fun k hk => ?_)]
  · decide
  · refine decide_eq_true ?_
    by_cases q : k < sLen.getD i 0
    · rw [if_pos (by omega), ((h.2 k hk).1 q).1]
      exact h3 k q
    · rw [if_neg (by omega), (h.2 k hk).2 (by omega)]
/-- the class's parser stands at the token T -/
def CT (tx : Nat → Int32) (n : Nat) (v : Nat → Nat) (T : Tok) : Prop :=
  v 5 = n ∧ n ≤ 600 ∧ v 7 = T.2.1 ∧ v 8 = T.2.2 ∧ T.2.1 ≤ T.2.2 ∧ T.2.2 ≤ n ∧ T.1 ≤ 4 ∧ (v 6 = T.1 ∨ (v 6 = 2 ∧ T.1 = 4 ∧ 3 < T.2.2 - T.2.1)) ∧ (T.1 = 2 → T.2.2 - T.2.1 ≤ 3 ∧ ∀ j, T.2.1 ≤ j → j < T.2.2 → isDg (tx j) = true) ∧ (T.1 = 1 → ∀ j, T.2.1 ≤ j → j < T.2.2 → isLt (tx j) = true)
theorem tkC_K {ip : Nat → Int32} {n k p : Nat} : tkC ip n k p = tkK ip n k p ∨ (tkC ip n k p = 2 ∧ tkK ip n k p = 4 ∧ 3 < tkT ip n p - tkF ip n p) := by
  by_cases h0 : tkF ip n p = n
  · left
    simp only [tkC, tkK]
    rw [if_pos h0, if_pos h0]
  by_cases hl : isLt (ip (tkF ip n p)) = true
  · left
    have hb : kBf (ip (tkF ip n p)) = 1 := if_pos hl
    simp only [tkC, tkK]
    rw [if_neg h0, if_neg h0, if_pos hl, hb]
    by_cases hg : tkG ip n k p = true
    · rw [if_pos ⟨hg, by decide⟩, if_pos hg]
    · rw [if_neg (fun z => hg z.1), if_neg hg]
  by_cases hd : isDg (ip (tkF ip n p)) = true
  · have hb : kBf (ip (tkF ip n p)) = 2 := (if_neg hl).trans (if_pos hd)
    simp only [tkC, tkK]
    rw [if_neg h0, if_neg h0, if_neg hl, if_pos hd, hb]
    by_cases hg : tkG ip n k p = true
    · left
      rw [if_pos ⟨hg, by decide⟩, if_pos (Or.inl hg)]
    · rw [if_neg (fun z => hg z.1)]
      by_cases h3 : 3 < tkT ip n p - tkF ip n p
      · exact Or.inr ⟨rfl, if_pos (Or.inr h3), h3⟩
      · left
        rw [if_neg (fun z => z.elim hg h3)]
  · left
    have hb : kBf (ip (tkF ip n p)) = if ip (tkF ip n p) = nI 59 then 3 else 4 := (if_neg hl).trans (if_neg hd)
    simp only [tkC, tkK]
    rw [if_neg h0, if_neg h0, if_neg hl, if_neg hd, hb]
    by_cases h9 : ip (tkF ip n p) = nI 59
    · rw [if_pos h9, if_neg (fun z => z.2 rfl)]
    · rw [if_neg h9]
      split <;> rfl
theorem CT_rd {tx : Nat → Int32} {n : Nat} {v : Nat → Nat} {T : Tok} (h : CT tx n v T) (h6 : v 6 = T.1) : CT tx n (rdV tx v) (nxT tx n T) ∧ rdV tx v 9 = T.2.1 ∧ rdV tx v 1 = v 1 ∧ rdV tx v 2 = v 2 := by
  obtain ⟨h5, hn, h7, h8, ha, hb, hk, -, -, -⟩ := h
  have e5 : rdV tx v 5 = n := h5
  have e6 : rdV tx v 6 = tkC tx n T.1 T.2.2 := by rw [← h5, ← h6, ← h8]; exact upN_s
  have e7 : rdV tx v 7 = tkF tx n T.2.2 := by
    rw [← h5, ← h8]
    rfl
  have e8 : rdV tx v 8 = tkT tx n T.2.2 := by
    rw [← h5, ← h8]
    rfl
  refine ⟨⟨e5, hn, e7, e8, tkT_ge, tkT_le hb, tkK_le _ _ _ _, ?_, fun q => tkK_2 q, fun q => tkK_1 q⟩, h7, rfl, rfl⟩
  rw [e6]
  exact tkC_K
end PURE12
