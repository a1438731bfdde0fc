section PURE8
theorem bdS_inr {α β : Type} {r : Ept α} {f : α → Ept β} {b : β} (h : bdS r f = .inr b) : ∃ a, r = .inr a ∧ f a = .inr b := by
  cases r with
  | inl e => cases h
  | inr a => exact ⟨a, rfl, h⟩
theorem nxT_t {ip : Nat → Int32} {n : Nat} {T : Tok} (h : T.2.2 ≤ n) : T.2.2 ≤ (nxT ip n T).2.2 ∧ (nxT ip n T).2.2 ≤ n :=
  ⟨Nat.le_trans tkF_ge tkT_ge, tkT_le h⟩
theorem kyM_1 {i : Nat} {ip : Nat → Int32} {T : Tok} (h : kyM i ip T = true) : T.1 = 1 := by
  simp only [kyM] at h
  split at h
  · rename_i h2
    exact h2.1
  · cases h
theorem Bd.up1 {M : Nat} {σ : Nat → Nat} (h : Bd M σ) (h9 : σ 1 < 10) : Bd M (upN σ 1 (σ 1 + 1)) := by
  obtain ⟨h1, h2, h3, h4, h5, h6, h7⟩ := h
  refine ⟨h1, h2, ?_, ?_, ?_, fun j ha hb => ?_, fun t ht => ?_⟩
  · rw [upN_n (by decide)]; exact h3
  · rw [upN_s]; omega
  · rw [upN_n (by decide)]; exact h5
  · rw [upN_n (by omega)]; exact h6 j ha hb
  · rw [upN_n (by decide)] at ht
    rw [upN_n (by omega), upN_s]
    have := h7 t ht
    omega
theorem Bd.up2 {M : Nat} {σ : Nat → Nat} (h : Bd M σ) (h9 : σ 2 < 5) (h8 : σ (65 + 5 * σ 2 + 2) < σ 1) : Bd M (upN σ 2 (σ 2 + 1)) := by
  obtain ⟨h1, h2, h3, h4, h5, h6, h7⟩ := h
  refine ⟨h1, h2, ?_, ?_, ?_, fun j ha hb => ?_, fun t ht => ?_⟩
  · rw [upN_n (by decide)]; exact h3
  · rw [upN_n (by decide)]; exact h4
  · rw [upN_s]; omega
  · rw [upN_n (by omega)]; exact h6 j ha hb
  · rw [upN_s] at ht
    rw [upN_n (by omega), upN_n (by decide)]
    rcases Nat.lt_or_ge t (σ 2) with q | q
    · exact h7 t q
    · have : t = σ 2 := by omega
      subst this
      exact h8
theorem Bd.up34 {M : Nat} {σ : Nat → Nat} {k x : Nat} (h : Bd M σ) (hk : k = 3 ∨ k = 4) : Bd M (upN σ k x) := by
  obtain ⟨h1, h2, h3, h4, h5, h6, h7⟩ := h
  refine ⟨h1, h2, ?_, ?_, ?_, fun j ha hb => ?_, fun t ht => ?_⟩
  · rw [upN_n (by omega)]; exact h3
  · rw [upN_n (by omega)]; exact h4
  · rw [upN_n (by omega)]; exact h5
  · rw [upN_n (by omega)]; exact h6 j ha hb
  · rw [upN_n (by omega)] at ht
    rw [upN_n (by omega), upN_n (by omega)]; exact h7 t ht
theorem layS_bd {M : Nat} {σ : Nat → Nat} (h : Bd M σ) (h9 : σ 1 < 10) {l d li be : Nat} (hl : l ≤ 20) (hd : d ≤ 20) (hli : li ≤ 20) (hbe : be ≤ 20) : Bd M (layS σ l d li be) := by
  have h20 := h.1
  have h1 := (((((h.up (k := 5 + 6 * σ 1 + 0) (x := l) (by omega) (by omega) (fun u hu e => by have := h.2.2.2.2.1; omega)).up (k := 5 + 6 * σ 1 + 1) (x := d) (by omega) (by omega) (fun u hu e => by omega)).up (k := 5 + 6 * σ 1 + 2) (x := li) (by omega) (by omega) (fun u hu e => by omega)).up (k := 5 + 6 * σ 1 + 3) (x := be) (by omega) (by omega) (fun u hu e => by omega)).up (k := 5 + 6 * σ 1 + 4) (x := 0) (by omega) (by omega) (fun u hu e => by omega)).up (k := 5 + 6 * σ 1 + 5) (x := 0) (by omega) (by omega) (fun u hu e => by omega)
  have e1 : upN (upN (upN (upN (upN (upN σ (5 + 6 * σ 1 + 0) l) (5 + 6 * σ 1 + 1) d) (5 + 6 * σ 1 + 2) li) (5 + 6 * σ 1 + 3) be) (5 + 6 * σ 1 + 4) 0) (5 + 6 * σ 1 + 5) 0 1 = σ 1 := by
    rw [upN_n (by omega), upN_n (by omega), upN_n (by omega), upN_n (by omega), upN_n (by omega), upN_n (by omega)]
  have h2 := h1.up1 (by rw [e1]; exact h9)
  rw [e1] at h2
  exact h2
theorem setS_bd {M : Nat} {σ : Nat → Nat} (h : Bd M σ) (h9 : σ 2 < 5) {b w tp : Nat} (hb : b < σ 1) (hw : w ≤ 20) (ht : tp ≤ 20) : Bd M (setS σ b w tp) := by
  have h20 := h.1
  have h10 := h.2.2.2.1
  have h1 := (((((h.up (k := 65 + 5 * σ 2 + 0) (x := w) (by omega) (by omega) (fun u hu e => by omega)).up (k := 65 + 5 * σ 2 + 1) (x := tp) (by omega) (by omega) (fun u hu e => by omega)).up (k := 65 + 5 * σ 2 + 2) (x := b) (by omega) (by omega) (fun u hu e => by rw [upN_n (by omega), upN_n (by omega)]; exact hb)).up (k := 65 + 5 * σ 2 + 3) (x := 0) (by omega) (by omega) (fun u hu e => by omega)).up (k := 65 + 5 * σ 2 + 4) (x := 0) (by omega) (by omega) (fun u hu e => by omega)).up34 (k := 4) (x := σ 4 + w) (Or.inr rfl)
  have e2 : upN (upN (upN (upN (upN (upN σ (65 + 5 * σ 2 + 0) w) (65 + 5 * σ 2 + 1) tp) (65 + 5 * σ 2 + 2) b) (65 + 5 * σ 2 + 3) 0) (65 + 5 * σ 2 + 4) 0) 4 (σ 4 + w) 2 = σ 2 := by
    rw [upN_n (by omega), upN_n (by omega), upN_n (by omega), upN_n (by omega), upN_n (by omega), upN_n (by omega)]
  have h2 := h1.up2 (by rw [e2]; exact h9) (by
    rw [e2, upN_n (by omega), upN_n (by omega), upN_n (by omega), upN_s, upN_n (by omega), upN_n (by omega), upN_n (by omega), upN_n (by omega), upN_n (by omega), upN_n (by omega)]
    exact hb)
  rw [e2] at h2
  exact h2
/-- what a line that is right leaves: the reading goes on, the bounds hold -/
def LnOk (M n : Nat) (T : Tok) (r : PSt) : Prop := T.2.2 ≤ r.2.2.2 ∧ r.2.2.2 ≤ n ∧ Bd (M + 1100) r.1 ∧ r.1 0 ≤ 9999
theorem pBlock_ok {M n : Nat} {ip : Nat → Int32} {σ : Nat → Nat} {T : Tok} {r : PSt} (hB : Bd M σ) (hM : M + 1100 < 1073741824) (h9 : σ 0 ≤ 9999) (ht : T.2.2 ≤ n) (h : pBlock ip n σ T = .inr r) : LnOk M n T r := by
  have h10 := hB.2.2.2.1
  simp only [pBlock] at h
  split at h
  · cases h
  obtain ⟨a, ha, h⟩ := bdS_inr h
  obtain ⟨b, hb, h⟩ := bdS_inr h
  have t1 := nxT_t (ip := ip) ht
  have t2 := nxT_t (ip := ip) t1.2
  have t3 := nxT_t (ip := ip) t2.2
  have a2 := pNum_lt ha
  have b2 := pNum_lt hb
  split at h
  · obtain ⟨c, hc, h⟩ := bdS_inr h
    have t4 := nxT_t (ip := ip) t3.2
    have t5 := nxT_t (ip := ip) t4.2
    have c2 := pNum_lt hc
    obtain rfl := Sum.inr.inj h
    refine ⟨by dsimp only; omega, t5.2, (layS_bd hB (by omega) (by omega) (by omega) (by omega) (by omega)).mono (by omega) hM, ?_⟩
    simp only [layS]
    rw [upN_n (by omega), upN_n (by omega), upN_n (by omega), upN_n (by omega), upN_n (by omega), upN_n (by omega), upN_n (by omega)]
    exact h9
  · obtain rfl := Sum.inr.inj h
    refine ⟨by dsimp only; omega, t3.2, (layS_bd hB (by omega) (by omega) (by omega) (by omega) (by omega)).mono (by omega) hM, ?_⟩
    simp only [layS]
    rw [upN_n (by omega), upN_n (by omega), upN_n (by omega), upN_n (by omega), upN_n (by omega), upN_n (by omega), upN_n (by omega)]
    exact h9
theorem pTrain_ok {M n : Nat} {ip : Nat → Int32} {σ : Nat → Nat} {T : Tok} {r : PSt} (hB : Bd M σ) (hM : M + 1100 < 1073741824) (h9 : σ 0 ≤ 9999) (ht : T.2.2 ≤ n) (h : pTrain ip n σ T = .inr r) : LnOk M n T r := by
  have h10 := hB.2.2.2.2.1
  simp only [pTrain] at h
  split at h
  · cases h
  obtain ⟨a, ha, h⟩ := bdS_inr h
  split at h
  · cases h
  obtain ⟨b, hb, h⟩ := bdS_inr h
  obtain ⟨c, hc, h⟩ := bdS_inr h
  have t1 := nxT_t (ip := ip) ht
  have t2 := nxT_t (ip := ip) t1.2
  have t3 := nxT_t (ip := ip) t2.2
  have t4 := nxT_t (ip := ip) t3.2
  have a2 := pNum_lt ha
  have b2 := pNum_lt hb
  have c2 := pNum_lt hc
  obtain rfl := Sum.inr.inj h
  refine ⟨by dsimp only; omega, t4.2, (setS_bd hB (by omega) a2 (by omega) (by omega)).mono (by omega) hM, ?_⟩
  simp only [setS]
  rw [upN_n (by omega), upN_n (by omega), upN_n (by omega), upN_n (by omega), upN_n (by omega), upN_n (by omega), upN_n (by omega)]
  exact h9
theorem pPull_ok {M n : Nat} {ip : Nat → Int32} {σ : Nat → Nat} {T : Tok} {r : PSt} (hB : Bd M σ) (hM : M + 1100 < 1073741824) (h9 : σ 0 ≤ 9999) (ht : T.2.2 ≤ n) (h : pPull ip n σ T = .inr r) : LnOk M n T r := by
  have h10 := hB.2.2.2.1
  have h20 := hB.1
  simp only [pPull] at h
  obtain ⟨a, ha, h⟩ := bdS_inr h
  have t1 := nxT_t (ip := ip) ht
  have t2 := nxT_t (ip := ip) t1.2
  have a2 := pNum_lt ha
  split at h
  · obtain rfl := Sum.inr.inj h
    refine ⟨by dsimp only; omega, t2.2, (hB.up (by omega) (by omega) (fun u hu e => by omega)).mono (by omega) hM, ?_⟩
    dsimp only
    rw [upN_n (by omega)]
    exact h9
  · cases h
theorem pDanger_ok {M n : Nat} {ip : Nat → Int32} {σ : Nat → Nat} {T : Tok} {r : PSt} (hB : Bd M σ) (hM : M + 1100 < 1073741824) (h9 : σ 0 ≤ 9999) (ht : T.2.2 ≤ n) (h : pDanger ip n σ T = .inr r) : LnOk M n T r := by
  have h10 := hB.2.2.2.1
  simp only [pDanger] at h
  obtain ⟨a, ha, h⟩ := bdS_inr h
  have t1 := nxT_t (ip := ip) ht
  have t2 := nxT_t (ip := ip) t1.2
  have a2 := pNum_lt ha
  split at h
  · cases h
  · obtain rfl := Sum.inr.inj h
    refine ⟨by dsimp only; omega, t2.2, (hB.up (by omega) (by omega) (fun u hu e => by omega)).mono (by omega) hM, ?_⟩
    dsimp only
    rw [upN_n (by omega)]
    exact h9
theorem pRepair_ok {M n : Nat} {ip : Nat → Int32} {σ : Nat → Nat} {T : Tok} {r : PSt} (hB : Bd M σ) (hM : M + 1100 < 1073741824) (h9 : σ 0 ≤ 9999) (ht : T.2.2 ≤ n) (h : pRepair ip n σ T = .inr r) : LnOk M n T r := by
  have h10 := hB.2.2.2.1
  simp only [pRepair] at h
  obtain ⟨a, ha, h⟩ := bdS_inr h
  have t1 := nxT_t (ip := ip) ht
  have t2 := nxT_t (ip := ip) t1.2
  have a2 := pNum_lt ha
  split at h
  · obtain rfl := Sum.inr.inj h
    refine ⟨by dsimp only; omega, t2.2, (hB.up (by omega) (by omega) (fun u hu e => by omega)).mono (by omega) hM, ?_⟩
    dsimp only
    rw [upN_n (by omega)]
    exact h9
  · cases h
theorem pTicks_ok {M n : Nat} {ip : Nat → Int32} {σ : Nat → Nat} {T : Tok} {r : PSt} (hB : Bd M σ) (hM : M + 1100 < 1073741824) (h9 : σ 0 ≤ 9999) (ht : T.2.2 ≤ n) (h : pTicks ip n σ T = .inr r) : LnOk M n T r := by
  simp only [pTicks] at h
  obtain ⟨a, ha, h⟩ := bdS_inr h
  have t1 := nxT_t (ip := ip) ht
  have t2 := nxT_t (ip := ip) t1.2
  have a2 := pNum_lt ha
  obtain rfl := Sum.inr.inj h
  have a3 : a ≤ 99 ∧ a ≤ 9999 - σ 0 := by split at a2 <;> omega
  refine ⟨by dsimp only; omega, t2.2, (psS_bd a σ hB (by omega)).mono (by omega) hM, ?_⟩
  dsimp only
  rw [psS_0]
  omega
theorem pLine_ok {M n : Nat} {ip : Nat → Int32} {σ : Nat → Nat} {T : Tok} {r : PSt} (hB : Bd M σ) (hM : M + 1100 < 1073741824) (h9 : σ 0 ≤ 9999) (ht : T.2.2 ≤ n) (h : pLine ip n σ T = .inr r) : T.1 = 1 ∧ LnOk M n T r := by
  simp only [pLine] at h
  split at h
  · rename_i q
    exact ⟨kyM_1 q, pBlock_ok hB hM h9 ht h⟩
  split at h
  · rename_i q
    exact ⟨kyM_1 q, pTrain_ok hB hM h9 ht h⟩
  split at h
  · rename_i q
    exact ⟨kyM_1 q, pPull_ok hB hM h9 ht h⟩
  split at h
  · rename_i q
    exact ⟨kyM_1 q, pDanger_ok hB hM h9 ht h⟩
  split at h
  · rename_i q
    exact ⟨kyM_1 q, pRepair_ok hB hM h9 ht h⟩
  split at h
  · rename_i q
    exact ⟨kyM_1 q, pTicks_ok hB hM h9 ht h⟩
  · cases h
/-- a line behind a semicolon: the reading has come on -/
theorem pLine_go {M n : Nat} {ip : Nat → Int32} {σ : Nat → Nat} {T : Tok} {r : PSt} (hB : Bd M σ) (hM : M + 1100 < 1073741824) (h9 : σ 0 ≤ 9999) (ht : T.2.2 ≤ n) (h : pLine ip n σ (nxT ip n T) = .inr r) : T.2.2 + 1 ≤ r.2.2.2 ∧ r.2.2.2 ≤ n ∧ Bd (M + 1100) r.1 ∧ r.1 0 ≤ 9999 := by
  obtain ⟨h1, h2, h3, h4, h5⟩ := pLine_ok hB hM h9 (nxT_t ht).2 h
  have h6 : tkF ip n T.2.2 < tkT ip n T.2.2 := tkT_gt (k := T.1) ht (by
    have : tkK ip n T.1 T.2.2 = 1 := h1
    omega)
  have h7 : T.2.2 ≤ tkF ip n T.2.2 := tkF_ge
  have h8 : tkT ip n T.2.2 ≤ r.2.2.2 := h2
  exact ⟨by omega, h3, h4, h5⟩
def Fy (v v' : Nat → Nat) : Prop := ∀ j, j < 14 → v' j = v j
theorem Fz.y {v v' : Nat → Nat} (h : Fz v v') : Fy v v' := fun j hj => h j (by omega)
theorem Fy.tr {a b c : Nat → Nat} (h1 : Fy a b) (h2 : Fy b c) : Fy a c := fun j hj => (h2 j hj).trans (h1 j hj)
theorem Fy.up {a b : Nat → Nat} {k x : Nat} (h : Fy a b) (hk : 14 ≤ k) : Fy a (upN b k x) := fun j hj => by rw [upN_n (by omega)]; exact h j hj
theorem Bd_0 : Bd 20 (fun _ => 0) := ⟨by decide, by decide, by decide, by decide, by decide, fun _ _ _ => Nat.zero_le _, fun t ht => absurd ht (Nat.not_lt_zero t)⟩
end PURE8
