section GD
/-- what every state of a railway that the law has loaded keeps: M bounds its counts, T its tick -/
def Good (M T : Nat) (σ : Nat → Nat) : Prop := Inv M σ ∧ Bal σ ∧ σ 0 ≤ T ∧ 1 ≤ σ 1
/-- the history's states -/
def HJ (M T nx ct : Nat) (gh : Nat → Nat → Nat → Nat) : Prop := nx < 10 ∧ ct ≤ 10 ∧ ∀ i, i < ct → ∃ h, Rep (gh ((nx + 10 - ct + i) % 10)) h ∧ Good M T h
section GDV
variable {M N T U : Nat} {σ τ : Nat → Nat} {nx ct : Nat} {gh : Nat → Nat → Nat → Nat}
theorem Good.mo (h : Good M T σ) (h1 : M ≤ N) (h2 : N < 1073741824) (h3 : T ≤ U) : Good N U σ := ⟨h.1.mono h1 h2, h.2.1, Nat.le_trans h.2.2.1 h3, h.2.2.2⟩
theorem HJ.mo (h : HJ M T nx ct gh) (h1 : M ≤ N) (h2 : N < 1073741824) (h3 : T ≤ U) : HJ N U nx ct gh := ⟨h.1, h.2.1, fun i hi => by
  obtain ⟨x, hx, hg⟩ := h.2.2 i hi
  exact ⟨x, hx, hg.mo h1 h2 h3⟩⟩
theorem HJ.push (h : HJ M T nx ct gh) (hg : Good M T σ) {gq : Nat → Nat → Nat} (hq : Rep gq σ) : HJ M T (fwN nx) (mnN ct) (upS gh nx gq) := by
  obtain ⟨k1, k2, k4⟩ := h
  refine ⟨?_, ?_, fun i hi => ?_⟩
  · simp only [fwN]; split <;> omega
  · simp only [mnN]; split <;> omega
  · by_cases q : i + 1 = mnN ct
    · refine ⟨σ, ?_, hg⟩
      rw [show (fwN nx + 10 - mnN ct + i) % 10 = nx by rw [← q]; simp only [mnN] at q; simp only [fwN]; split at q <;> split <;> omega, upS_s]
      exact hq
    · by_cases z : ct = 10
      · have e1 : mnN ct = 10 := by simp only [mnN]; rw [if_pos (by omega)]
        rw [e1] at hi q ⊢
        rw [upS_n (by simp only [fwN]; split <;> omega), show (fwN nx + 10 - 10 + i) % 10 = (nx + 10 - ct + (i + 1)) % 10 by simp only [fwN]; split <;> omega]
        exact k4 (i + 1) (by omega)
      · have e1 : mnN ct = ct + 1 := by simp only [mnN]; rw [if_neg (by omega)]
        rw [e1] at hi q ⊢
        rw [upS_n (by simp only [fwN]; split <;> omega), show (fwN nx + 10 - (ct + 1) + i) % 10 = (nx + 10 - ct + i) % 10 by simp only [fwN]; split <;> omega]
        exact k4 i (by omega)
theorem HJ.pop (h : HJ M T nx ct gh) (hc : 1 ≤ ct) : HJ M T (bkN nx) (ct - 1) gh := by
  obtain ⟨k1, k2, k4⟩ := h
  refine ⟨?_, by omega, fun i hi => ?_⟩
  · simp only [bkN]; split <;> omega
  · rw [show (bkN nx + 10 - (ct - 1) + i) % 10 = (nx + 10 - ct + i) % 10 by simp only [bkN]; split <;> omega]
    exact k4 i (by omega)
theorem HJ.top (h : HJ M T nx ct gh) (hc : 1 ≤ ct) : ∃ τ, Rep (gh (bkN nx)) τ ∧ Good M T τ := by
  obtain ⟨k1, k2, k4⟩ := h
  have k5 := k4 (ct - 1) (by omega)
  rwa [show (nx + 10 - ct + (ct - 1)) % 10 = bkN nx by simp only [bkN]; split <;> omega] at k5
theorem mnN_1 : 1 ≤ mnN ct := by
  simp only [mnN]
  split <;> omega
theorem Good.n1 (h : Good M T σ) : σ 1 ≤ 10 := h.1.n1
theorem Good.n2 (h : Good M T σ) : σ 2 ≤ 5 := h.1.n2
theorem Good.clr (h : Good M T σ) {b x : Nat} (hb : b < σ 1) (hx : x ≤ 1) : Good M T (upN σ (5 + 6 * b + 4) x) := by
  have h10 := h.n1
  exact ⟨h.1.clr (by omega) hx, h.2.1.clr (Or.inr rfl) hb h10, by rw [upN_n (by omega)]; exact h.2.2.1, by rw [upN_n (by omega)]; exact h.2.2.2⟩
theorem Good.dep (h : Good M T σ) {b : Nat} (hb : b < σ 1) : Good M T (upN σ (5 + 6 * b + 1) 0) := by
  have h10 := h.n1
  exact ⟨h.1.dep (by omega) (by omega), h.2.1.clr (Or.inl rfl) hb h10, by rw [upN_n (by omega)]; exact h.2.2.1, by rw [upN_n (by omega)]; exact h.2.2.2⟩
theorem Good.rem (h : Good M T σ) {b : Nat} (hb : b < σ 1) : Good M T (upN (upN σ (5 + 6 * b + 5) 0) 3 (σ 3 + σ (5 + 6 * b + 5))) := by
  have h10 := h.n1
  exact ⟨(h.1.lost0 (by omega)).r34 (Or.inl rfl), h.2.1.rem hb h10, by rw [upN_n (by omega), upN_n (by omega)]; exact h.2.2.1, by rw [upN_n (by omega), upN_n (by omega)]; exact h.2.2.2⟩
theorem Good.add (h : Good M T σ) {t n : Nat} (ht : t < σ 2) (h1 : 1 ≤ n) (hn : σ (65 + 5 * t + 0) + n ≤ 12) : Good M T (upN (upN σ (65 + 5 * t + 0) (σ (65 + 5 * t + 0) + n)) 4 (σ 4 + n)) := by
  have h10 := h.n1
  have h5 := h.n2
  exact ⟨(h.1.wag (by omega) (by omega) hn).r34 (Or.inr rfl), h.2.1.add ht h5 h10, by rw [upN_n (by omega), upN_n (by omega)]; exact h.2.2.1, by rw [upN_n (by omega), upN_n (by omega)]; exact h.2.2.2⟩
theorem Good.top (h : Good M T σ) {t x : Nat} (ht : t < σ 2) (h1 : 1 ≤ x) (h5x : x ≤ 5) : Good M T (upN σ (65 + 5 * t + 1) x) := by
  have h10 := h.n1
  have h5 := h.n2
  exact ⟨h.1.top (by omega) h1 h5x, h.2.1.top h10 ht h5, by rw [upN_n (by omega)]; exact h.2.2.1, by rw [upN_n (by omega)]; exact h.2.2.2⟩
theorem Good.ps (h : Good M T σ) {n : Nat} (hn : n ≤ 12) (hM : M + 200 < 1073741824) : Good (M + 200) (T + 12) (psS n σ) :=
  ⟨(psS_inv n σ h.1 (by omega)).mono (by omega) hM, h.2.1.ps h.1 (by omega), by have := h.2.2.1; rw [psS_0]; omega, by rw [psS_1]; exact h.2.2.2⟩
theorem free_le (f : Nat → Nat) : ∀ n, sumL (fun i => if f i = 0 then 1 else 0) n ≤ n
  | 0 => Nat.le_refl _
  | n + 1 => by
    have h1 := free_le f n
    show sumL (fun i => if f i = 0 then 1 else 0) n + (if f n = 0 then 1 else 0) ≤ n + 1
    split <;> omega
theorem isB_0 {k : Nat} (h : k < 2147483648) : isB 0 (nI k) = false := by
  show inI (nI k) (nI 0) (nI 0 - nI 1) = false
  simp only [inI, Bool.and_eq_false_iff, decide_eq_false_iff_not]
  refine Or.inr (Int32.not_le.mpr (Int32.lt_of_lt_of_le ?_ (nI_pos' h)))
  decide
theorem pair_eq {a b e : Nat} (h : b = a + e) : nI e = -(nI a - nI b) := by
  rw [h, ← nI_add a e, Int32.neg_sub, Int32.add_comm, Int32.add_sub_cancel]
theorem sub_sub' (a x y : Nat) : nI a - nI x - nI y = nI a - nI (x + y) := by
  rw [← nI_add, Int32.sub_eq_add_neg, Int32.sub_eq_add_neg, Int32.sub_eq_add_neg, Int32.neg_add, Int32.sub_eq_add_neg, Int32.add_assoc]
theorem lost_0 (h : Good M T σ) {b : Nat} (ht : 0 < trAt σ b) : σ (5 + 6 * b + 5) = 0 := by
  have h1 := trL_some σ b (σ 2) 0 ht
  have h2 := trAt_le σ b
  have h3 := h.1.2.2 (trAt σ b - 1) (by omega)
  have e : σ (65 + 5 * (trAt σ b - 1) + 2) = b := h1.2
  rwa [e] at h3
end GDV
theorem pmA_r {α : Type} {F S R H W Q : List α} : (F ++ ((S ++ (R ++ (H ++ W))) ++ Q)).Perm ((S ++ R) ++ (F ++ ((H ++ W) ++ Q))) := by
  classical
  exact List.perm_iff_count.mpr (fun x => by simp only [List.count_append]; omega)
theorem pmA_f {α : Type} {F S R H W Q : List α} : (F ++ ((S ++ (R ++ (H ++ W))) ++ Q)).Perm ((F ++ (S ++ R)) ++ ((H ++ W) ++ Q)) := by
  classical
  exact List.perm_iff_count.mpr (fun x => by simp only [List.count_append]; omega)
theorem pmA_k {α : Type} {F K Q : List α} : (F ++ (K ++ Q)).Perm (K ++ (F ++ Q)) := by
  classical
  exact List.perm_iff_count.mpr (fun x => by simp only [List.count_append]; omega)
theorem pmA_q {α : Type} {F K Q : List α} : (F ++ (K ++ Q)).Perm (Q ++ (F ++ K)) := by
  classical
  exact List.perm_iff_count.mpr (fun x => by simp only [List.count_append]; omega)
end GD
