section PURE13
theorem Sl_up {σ : Nat → Nat} {j x : Nat} (hs : Sm σ) (h : Sl σ) (h2 : j ≠ 2) (hp : ∀ t, t < 5 → j ≠ 65 + 5 * t + 2) (hl : ∀ b, b < 10 → j ≠ 5 + 6 * b + 5) : Sl (upN σ j x) := by
  intro t ht
  have h5 := hs.2.2.2.2.2
  have h10 := hs.2.2.2.2.1
  rw [upN_n (Ne.symm h2)] at ht
  have h9 := hs.2.1 t ht
  rw [upN_n (j := 65 + 5 * t + 2) (Ne.symm (hp t (by omega))), upN_n (Ne.symm (hl _ (by omega)))]
  exact h t ht
theorem pLine_inv {M n : Nat} {ip : Nat → Int32} {σ : Nat → Nat} {T : Tok} {r : PSt} (hv : Inv M σ) (hM : M + 1100 < 1073741824) (h0 : σ 0 ≤ 9999) (h : pLine ip n σ T = .inr r) : Sm r.1 ∧ Sl r.1 := by
  have h10 := hv.n1
  have h5 := hv.n2
  simp only [pLine] at h
  split at h
  · simp only [pBlock] at h
    split at h
    · cases h
    obtain ⟨a, ha, h⟩ := bdS_inr h
    obtain ⟨b, hb, h⟩ := bdS_inr h
    have a1 := pNum_ge ha
    have a2 := pNum_lt ha
    have b2 := pNum_lt hb
    split at h
    · obtain ⟨c, hc, h⟩ := bdS_inr h
      have c1 := pNum_ge hc
      have c2 := pNum_lt hc
      obtain rfl := Sum.inr.inj h
      exact (hv.lay (by omega) (by omega) (by omega) (by omega) (by omega) (by omega) (by omega) (by omega)).2
    · obtain rfl := Sum.inr.inj h
      exact (hv.lay (by omega) (by omega) (by omega) (by omega) (by omega) (by omega) (by omega) (by omega)).2
  split at h
  · simp only [pTrain] at h
    split at h
    · cases h
    obtain ⟨a, ha, h⟩ := bdS_inr h
    split at h
    · cases h
    rename_i ho
    obtain ⟨b, hb, h⟩ := bdS_inr h
    obtain ⟨c, hc, h⟩ := bdS_inr h
    have a2 := pNum_lt ha
    have b1 := pNum_ge hb
    have b2 := pNum_lt hb
    have c1 := pNum_ge hc
    have c2 := pNum_lt hc
    obtain rfl := Sum.inr.inj h
    exact (hv.set (by omega) a2 (by simpa using ho) (by omega) (by omega) (by omega) (by omega)).2
  split at h
  · simp only [pPull] at h
    obtain ⟨a, ha, h⟩ := bdS_inr h
    have a2 := pNum_lt ha
    split at h
    · obtain rfl := Sum.inr.inj h
      exact ⟨Sm_clr (by omega) (by omega) hv.2.1, Sl_up hv.2.1 hv.2.2 (by omega) (fun t ht => by omega) (fun b hb => by omega)⟩
    · cases h
  split at h
  · simp only [pDanger] at h
    obtain ⟨a, ha, h⟩ := bdS_inr h
    have a2 := pNum_lt ha
    split at h
    · cases h
    · obtain rfl := Sum.inr.inj h
      exact ⟨Sm_clr (by omega) (by omega) hv.2.1, Sl_up hv.2.1 hv.2.2 (by omega) (fun t ht => by omega) (fun b hb => by omega)⟩
  split at h
  · simp only [pRepair] at h
    obtain ⟨a, ha, h⟩ := bdS_inr h
    have a2 := pNum_lt ha
    split at h
    · obtain rfl := Sum.inr.inj h
      exact ⟨Sm_dep (by omega) (by omega) hv.2.1, Sl_up hv.2.1 hv.2.2 (by omega) (fun t ht => by omega) (fun b hb => by omega)⟩
    · cases h
  split at h
  · simp only [pTicks] at h
    obtain ⟨a, ha, h⟩ := bdS_inr h
    have a2 := pNum_lt ha
    have a3 : a ≤ 99 := by
      split at a2 <;> omega
    obtain rfl := Sum.inr.inj h
    exact (psS_inv a σ hv (by omega)).2
  · cases h
end PURE13
