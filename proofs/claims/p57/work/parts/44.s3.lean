section S3
def emG (g : Nat → Nat → Nat) : Nat → Nat → Nat := up2 (up2 (up2 (up2 (up2 g 0 0 0) 1 0 0) 2 0 0) 3 0 0) 4 0 0
theorem Rep_em {g : Nat → Nat → Nat} : Rep (emG g) (fun _ => 0) := ⟨⟨⟨rfl, rfl, rfl, rfl, rfl⟩, fun _ h => absurd h (Nat.not_lt_zero _), fun _ h => absurd h (Nat.not_lt_zero _), fun _ _ h => absurd h (Nat.not_lt_zero _)⟩, fun _ h => absurd h (Nat.not_lt_zero _)⟩
theorem Inv_em : Inv 20 (fun _ => 0) := ⟨⟨Nat.le_refl _, (by decide : (20 : Nat) < 1073741824), (by decide : (0 : Nat) ≤ 20), Nat.zero_le _, Nat.zero_le _, fun _ _ _ => Nat.zero_le _, fun _ h => absurd h (Nat.not_lt_zero _)⟩, ⟨fun _ h => absurd h (Nat.not_lt_zero _), fun _ h => absurd h (Nat.not_lt_zero _), fun _ _ h => absurd h (Nat.not_lt_zero _), fun _ _ _ _ _ => rfl, Nat.zero_le _, Nat.zero_le _⟩, fun _ h => absurd h (Nat.not_lt_zero _)⟩
section ACC
variable {g : Nat → Nat → Nat} {σ : Nat → Nat} {M : Nat}
theorem layS_old {l d li be j : Nat} (h1 : j ≠ 1) (h : j < 5 + 6 * σ 1 ∨ 5 + 6 * σ 1 + 5 < j) : layS σ l d li be j = σ j := by
  simp only [layS]
  rw [upN_n h1, upN_n (by omega), upN_n (by omega), upN_n (by omega), upN_n (by omega), upN_n (by omega), upN_n (by omega)]
theorem layS_1 {l d li be : Nat} : layS σ l d li be 1 = σ 1 + 1 := by simp only [layS]; exact upN_s
theorem layS_b {l d li be : Nat} : layS σ l d li be (5 + 6 * σ 1 + 0) = l ∧ layS σ l d li be (5 + 6 * σ 1 + 1) = d ∧ layS σ l d li be (5 + 6 * σ 1 + 2) = li ∧ layS σ l d li be (5 + 6 * σ 1 + 3) = be ∧ layS σ l d li be (5 + 6 * σ 1 + 4) = 0 ∧ layS σ l d li be (5 + 6 * σ 1 + 5) = 0 := by
  simp only [layS]
  refine ⟨?_, ?_, ?_, ?_, ?_, ?_⟩
  · rw [upN_n (by omega), upN_n (by omega), upN_n (by omega), upN_n (by omega), upN_n (by omega), upN_n (by omega), upN_s]
  · rw [upN_n (by omega), upN_n (by omega), upN_n (by omega), upN_n (by omega), upN_n (by omega), upN_s]
  · rw [upN_n (by omega), upN_n (by omega), upN_n (by omega), upN_n (by omega), upN_s]
  · rw [upN_n (by omega), upN_n (by omega), upN_n (by omega), upN_s]
  · rw [upN_n (by omega), upN_n (by omega), upN_s]
  · rw [upN_n (by omega), upN_s]
theorem Inv.lay (hv : Inv M σ) (h9 : σ 1 < 10) {l d li be : Nat} (hl1 : 1 ≤ l) (hl : l ≤ 20) (hd : d ≤ 9) (hi1 : 1 ≤ li) (hi : li ≤ 5) (hbe : be ≤ 1) (hb0 : be = 0 → li = 5) : Inv M (layS σ l d li be) := by
  have h5 := hv.n2
  have e1 := layS_1 (σ := σ) (l := l) (d := d) (li := li) (be := be)
  have e2 : layS σ l d li be 2 = σ 2 := layS_old (by decide) (by omega)
  obtain ⟨hA, hB, hD, hE, h10, -⟩ := hv.2.1
  refine ⟨layS_bd hv.1 h9 (by omega) (by omega) (by omega) (by omega), ⟨fun c hc => ?_, fun t ht => ?_, fun t u ht hu q => ?_, fun t c h1 h2 h3 => ?_, by omega, by omega⟩, fun t ht => ?_⟩
  · rw [e1] at hc
    by_cases q : c = σ 1
    · subst q
      obtain ⟨b0, b1, b2, b3, b4, b5⟩ := layS_b (σ := σ) (l := l) (d := d) (li := li) (be := be)
      rw [b0, b1, b2, b3, b4, b5]
      omega
    · have h9 := hA c (by omega)
      rw [layS_old (j := 5 + 6 * c + 0) (by omega) (by omega), layS_old (j := 5 + 6 * c + 1) (by omega) (by omega), layS_old (j := 5 + 6 * c + 2) (by omega) (by omega), layS_old (j := 5 + 6 * c + 3) (by omega) (by omega), layS_old (j := 5 + 6 * c + 4) (by omega) (by omega), layS_old (j := 5 + 6 * c + 5) (by omega) (by omega)]
      exact h9
  · rw [e2] at ht
    have h9 := hB t ht
    rw [e1, layS_old (j := 65 + 5 * t + 0) (by omega) (by omega), layS_old (j := 65 + 5 * t + 1) (by omega) (by omega), layS_old (j := 65 + 5 * t + 2) (by omega) (by omega), layS_old (j := 65 + 5 * t + 3) (by omega) (by omega), layS_old (j := 5 + 6 * σ (65 + 5 * t + 2) + 0) (by omega) (by omega)]
    omega
  · rw [e2] at ht hu
    rw [layS_old (by omega) (by omega), layS_old (by omega) (by omega)] at q
    exact hD t u ht hu q
  · rw [e2] at h1
    rw [layS_old (by omega) (by omega)]
    exact hE t c h1 h2 h3
  · rw [e2] at ht
    have h9 := hB t ht
    rw [layS_old (j := 65 + 5 * t + 2) (by omega) (by omega), layS_old (by omega) (by omega)]
    exact hv.2.2 t ht
def abG (g : Nat → Nat → Nat) (b l d m : Nat) : Nat → Nat → Nat := up2 (up2 (up2 (up2 (up2 (up2 (up2 g 5 b l) 6 b d) 7 b m) 8 b 0) 9 b 0) 10 b 0) 1 0 (b + 1)
theorem Rep.lay (h : Rep g σ) (hv : Inv M σ) (h9 : σ 1 < 10) {l d li be m : Nat} (hm : m = if be = 1 then li else 0) : Rep (abG g (σ 1) l d m) (layS σ l d li be) := by
  have h5 := hv.n2
  have e1 := layS_1 (σ := σ) (l := l) (d := d) (li := li) (be := be)
  have e2 : layS σ l d li be 2 = σ 2 := layS_old (by decide) (by omega)
  have ep : ∀ t, t < σ 2 → layS σ l d li be (65 + 5 * t + 2) = σ (65 + 5 * t + 2) := fun t ht => layS_old (by omega) (by omega)
  obtain ⟨⟨hA, hB, hC, hE⟩, hO⟩ := h
  refine ⟨⟨?_, fun c hc => ?_, fun t ht => ?_, fun t c ht hc => ?_⟩, fun c hc => ?_⟩
  · rw [e1, e2, layS_old (j := 0) (by decide) (by omega), layS_old (j := 3) (by decide) (by omega), layS_old (j := 4) (by decide) (by omega)]
    exact ⟨hA.1, rfl, hA.2.2.1, hA.2.2.2.1, hA.2.2.2.2⟩
  · rw [e1] at hc
    by_cases q : c = σ 1
    · subst q
      obtain ⟨b0, b1, b2, b3, b4, b5⟩ := layS_b (σ := σ) (l := l) (d := d) (li := li) (be := be)
      rw [b0, b1, b2, b3, b4, b5, ← hm]
      exact ⟨upN_s, upN_s, upN_s, upN_s, upN_s⟩
    · have h9 := hB c (by omega)
      rw [layS_old (j := 5 + 6 * c + 0) (by omega) (by omega), layS_old (j := 5 + 6 * c + 1) (by omega) (by omega), layS_old (j := 5 + 6 * c + 2) (by omega) (by omega), layS_old (j := 5 + 6 * c + 3) (by omega) (by omega), layS_old (j := 5 + 6 * c + 4) (by omega) (by omega), layS_old (j := 5 + 6 * c + 5) (by omega) (by omega)]
      exact ⟨(upN_n q).trans h9.1, (upN_n q).trans h9.2.1, (upN_n q).trans h9.2.2.1, (upN_n q).trans h9.2.2.2.1, (upN_n q).trans h9.2.2.2.2⟩
  · rw [e2] at ht
    have h9 := hC t ht
    rw [layS_old (j := 65 + 5 * t + 0) (by omega) (by omega), layS_old (j := 65 + 5 * t + 1) (by omega) (by omega), layS_old (j := 65 + 5 * t + 2) (by omega) (by omega), layS_old (j := 65 + 5 * t + 3) (by omega) (by omega), layS_old (j := 65 + 5 * t + 4) (by omega) (by omega)]
    exact h9
  · rw [e2] at ht
    rw [layS_old (by omega) (by omega)]
    exact hE t c ht hc
  · rw [e1] at hc
    rw [trAt_ext e2 ep]
    show upN (g 10) (σ 1) 0 c = _
    by_cases q : c = σ 1
    · subst q
      rw [upN_s]
      exact (trAt_0.mpr (fun t ht z => by have := hv.trn ht; omega)).symm
    · rw [upN_n q]
      exact hO c (by omega)
theorem setS_old {b w s j : Nat} (h1 : j ≠ 2) (h4 : j ≠ 4) (h : j < 65 + 5 * σ 2 ∨ 65 + 5 * σ 2 + 4 < j) : setS σ b w s j = σ j := by
  simp only [setS]
  rw [upN_n h1, upN_n h4, upN_n (by omega), upN_n (by omega), upN_n (by omega), upN_n (by omega), upN_n (by omega)]
theorem setS_2 {b w s : Nat} : setS σ b w s 2 = σ 2 + 1 := by simp only [setS]; exact upN_s
theorem setS_4 {b w s : Nat} : setS σ b w s 4 = σ 4 + w := by simp only [setS]; rw [upN_n (by decide), upN_s]
theorem setS_t {b w s : Nat} : setS σ b w s (65 + 5 * σ 2 + 0) = w ∧ setS σ b w s (65 + 5 * σ 2 + 1) = s ∧ setS σ b w s (65 + 5 * σ 2 + 2) = b ∧ setS σ b w s (65 + 5 * σ 2 + 3) = 0 ∧ setS σ b w s (65 + 5 * σ 2 + 4) = 0 := by
  simp only [setS]
  refine ⟨?_, ?_, ?_, ?_, ?_⟩
  · rw [upN_n (by omega), upN_n (by omega), upN_n (by omega), upN_n (by omega), upN_n (by omega), upN_n (by omega), upN_s]
  · rw [upN_n (by omega), upN_n (by omega), upN_n (by omega), upN_n (by omega), upN_n (by omega), upN_s]
  · rw [upN_n (by omega), upN_n (by omega), upN_n (by omega), upN_n (by omega), upN_s]
  · rw [upN_n (by omega), upN_n (by omega), upN_n (by omega), upN_s]
  · rw [upN_n (by omega), upN_n (by omega), upN_s]
theorem Inv.set (hv : Inv M σ) (h9 : σ 2 < 5) {b w s : Nat} (hb : b < σ 1) (ho : occ σ b = false) (hw1 : 1 ≤ w) (hw : w ≤ 12) (hs1 : 1 ≤ s) (hs : s ≤ 5) : Inv M (setS σ b w s) := by
  have h10 := hv.n1
  have e2 := setS_2 (σ := σ) (b := b) (w := w) (s := s)
  have e1 : setS σ b w s 1 = σ 1 := setS_old (by decide) (by decide) (by omega)
  obtain ⟨o1, o2⟩ := occ_f ho
  rw [trAt_0] at o1
  obtain ⟨hA, hB, hD, hE, -, -⟩ := hv.2.1
  obtain ⟨t0, t1, t2, t3, t4⟩ := setS_t (σ := σ) (b := b) (w := w) (s := s)
  refine ⟨setS_bd hv.1 h9 hb (by omega) (by omega), ⟨fun c hc => ?_, fun t ht => ?_, fun t u ht hu q => ?_, fun t c h1 h2 h3 => ?_, by omega, by omega⟩, fun t ht => ?_⟩
  · rw [e1] at hc
    have h9 := hA c (by omega)
    rw [setS_old (j := 5 + 6 * c + 0) (by omega) (by omega) (by omega), setS_old (j := 5 + 6 * c + 1) (by omega) (by omega) (by omega), setS_old (j := 5 + 6 * c + 2) (by omega) (by omega) (by omega), setS_old (j := 5 + 6 * c + 3) (by omega) (by omega) (by omega), setS_old (j := 5 + 6 * c + 4) (by omega) (by omega) (by omega), setS_old (j := 5 + 6 * c + 5) (by omega) (by omega) (by omega)]
    exact h9
  · rw [e2] at ht
    by_cases q : t = σ 2
    · subst q
      rw [t0, t1, t2, t3, e1]
      omega
    · have h9 := hB t (by omega)
      rw [e1, setS_old (j := 65 + 5 * t + 0) (by omega) (by omega) (by omega), setS_old (j := 65 + 5 * t + 1) (by omega) (by omega) (by omega), setS_old (j := 65 + 5 * t + 2) (by omega) (by omega) (by omega), setS_old (j := 65 + 5 * t + 3) (by omega) (by omega) (by omega), setS_old (j := 5 + 6 * σ (65 + 5 * t + 2) + 0) (by omega) (by omega) (by omega)]
      exact h9
  · rw [e2] at ht hu
    by_cases q1 : t = σ 2
    · by_cases q2 : u = σ 2
      · omega
      · subst q1
        rw [t2, setS_old (by omega) (by omega) (by omega)] at q
        exact absurd q.symm (o1 u (by omega))
    · by_cases q2 : u = σ 2
      · subst q2
        rw [t2, setS_old (by omega) (by omega) (by omega)] at q
        exact absurd q (o1 t (by omega))
      · rw [setS_old (by omega) (by omega) (by omega), setS_old (by omega) (by omega) (by omega)] at q
        exact hD t u (by omega) (by omega) q
  · rw [e2] at h1
    rw [setS_old (by omega) (by omega) (by omega)]
    exact hE t c (by omega) h2 h3
  · rw [e2] at ht
    by_cases q : t = σ 2
    · subst q
      rw [t2, setS_old (by omega) (by omega) (by omega)]
      exact o2
    · have h9 := hB t (by omega)
      rw [setS_old (j := 65 + 5 * t + 2) (by omega) (by omega) (by omega), setS_old (by omega) (by omega) (by omega)]
      exact hv.2.2 t (by omega)
theorem at_step {f p : Nat → Nat} {a k : Nat} (h : ∀ j, p j = if a ≤ j ∧ j < a + k then 0 else f j) : ∀ j, upN p (a + k) 0 j = if a ≤ j ∧ j < a + (k + 1) then 0 else f j := by
  intro j
  rw [upN_if, h j]
  by_cases q1 : j = a + k
  · rw [if_pos q1, if_pos (by omega)]
  · rw [if_neg q1]
    by_cases q2 : a ≤ j ∧ j < a + k
    · rw [if_pos q2, if_pos (by omega)]
    · rw [if_neg q2, if_neg (by omega)]
def atG (g : Nat → Nat → Nat) (p : Nat → Nat) (t b w s : Nat) : Nat → Nat → Nat := up2 (up2 (up2 (upA (up2 (up2 (up2 (up2 (up2 g 11 t b) 12 t 0) 13 t w) 14 t s) 15 t 0) 16 p) 10 b (t + 1)) 4 0 (g 4 0 + w)) 2 0 (t + 1)
theorem Rep.set (h : Rep g σ) (hv : Inv M σ) (h9 : σ 2 < 5) {b w s : Nat} {p : Nat → Nat} (hb : b < σ 1) (ho : occ σ b = false) (hw1 : 1 ≤ w) (hw : w ≤ 12) (hs1 : 1 ≤ s) (hs : s ≤ 5) (hp : ∀ j, p j = if σ 2 * 10 ≤ j ∧ j < σ 2 * 10 + 10 then 0 else g 16 j) : Rep (atG g p (σ 2) b w s) (setS σ b w s) := by
  have h10 := hv.n1
  have hi := hv.set h9 hb ho hw1 hw hs1 hs
  have e2 := setS_2 (σ := σ) (b := b) (w := w) (s := s)
  have e1 : setS σ b w s 1 = σ 1 := setS_old (by decide) (by decide) (by omega)
  obtain ⟨o1, o2⟩ := occ_f ho
  obtain ⟨⟨hA, hB, hC, hE⟩, hO⟩ := h
  obtain ⟨t0, t1, t2, t3, t4⟩ := setS_t (σ := σ) (b := b) (w := w) (s := s)
  refine ⟨⟨?_, fun c hc => ?_, fun t ht => ?_, fun t c ht hc => ?_⟩, fun c hc => ?_⟩
  · rw [e1, e2, setS_4, setS_old (j := 0) (by decide) (by decide) (by omega), setS_old (j := 3) (by decide) (by decide) (by omega), ← hA.2.2.2.2]
    exact ⟨hA.1, hA.2.1, rfl, hA.2.2.2.1, rfl⟩
  · rw [e1] at hc
    have h9 := hB c (by omega)
    rw [setS_old (j := 5 + 6 * c + 0) (by omega) (by omega) (by omega), setS_old (j := 5 + 6 * c + 1) (by omega) (by omega) (by omega), setS_old (j := 5 + 6 * c + 2) (by omega) (by omega) (by omega), setS_old (j := 5 + 6 * c + 3) (by omega) (by omega) (by omega), setS_old (j := 5 + 6 * c + 4) (by omega) (by omega) (by omega), setS_old (j := 5 + 6 * c + 5) (by omega) (by omega) (by omega)]
    exact h9
  · rw [e2] at ht
    by_cases q : t = σ 2
    · subst q
      rw [t0, t1, t2, t3, t4]
      exact ⟨upN_s, upN_s, upN_s, upN_s, upN_s⟩
    · have h9 := hC t (by omega)
      rw [setS_old (j := 65 + 5 * t + 0) (by omega) (by omega) (by omega), setS_old (j := 65 + 5 * t + 1) (by omega) (by omega) (by omega), setS_old (j := 65 + 5 * t + 2) (by omega) (by omega) (by omega), setS_old (j := 65 + 5 * t + 3) (by omega) (by omega) (by omega), setS_old (j := 65 + 5 * t + 4) (by omega) (by omega) (by omega)]
      exact ⟨(upN_n q).trans h9.1, (upN_n q).trans h9.2.1, (upN_n q).trans h9.2.2.1, (upN_n q).trans h9.2.2.2.1, (upN_n q).trans h9.2.2.2.2⟩
  · rw [e2] at ht
    show p (t * 10 + c) = _
    rw [hp, setS_old (by omega) (by omega) (by omega)]
    by_cases q : t = σ 2
    · rw [if_pos (by omega)]
      exact (hv.2.1.2.2.2.1 t c (by omega) (by omega) hc).symm
    · rw [if_neg (by omega)]
      exact hE t c (by omega) hc
  · rw [e1] at hc
    show upN (g 10) b (σ 2 + 1) c = _
    by_cases q : c = b
    · subst q
      rw [upN_s]
      exact ((trAt_iff hi.2.1 (t := σ 2) (by omega)).mpr t2).symm
    · rw [upN_n q, hO c hc]
      rcases Nat.eq_zero_or_pos (trAt σ c) with h0 | h0
      · rw [h0]
        refine (trAt_0.mpr (fun u hu z => ?_)).symm
        by_cases q1 : u = σ 2
        · subst q1
          rw [t2] at z
          exact q z.symm
        · rw [setS_old (by omega) (by omega) (by omega)] at z
          exact trAt_0.mp h0 u (by omega) z
      · obtain ⟨k, hk⟩ : ∃ k, trAt σ c = k + 1 := ⟨trAt σ c - 1, by omega⟩
        have hk2 : k < σ 2 := by
          have := trL_le σ c (σ 2) 0
          simp only [trAt] at hk
          omega
        rw [hk]
        refine ((trAt_iff hi.2.1 (t := k) (by omega)).mpr ?_).symm
        rw [setS_old (by omega) (by omega) (by omega)]
        exact (trAt_iff hv.2.1 hk2).mp hk
end ACC
set_option maxRecDepth 100000 in
set_option maxHeartbeats 4000000 in
theorem mX4_makeEmpty (l : Launch) (D : va_G) (κ : Nat → ClassId) (Sa : Nat → Nat) (g : Nat → Nat → Nat)  : cM l yX4_makeEmpty wsX4_makeEmpty { frames := 0, cells := 0, slots := 0, locals := 0 } D κ Sa [] g none (emG g) := by
  refine zM_of (cc := cX4_makeEmpty) (maxL := 1) (rt := none) [(0, .ref (Sa 0))] (by decide +kernel) rfl (Nat.le_of_ble_eq_true rfl) rfl ?_
  intro p e s m args below meth c A C hr9 hk hnm
  have C : zC p s m args c cX4_makeEmpty 1 wsX4_makeEmpty RX4 D (zTy κ) A := C
  have hin4 : ∀ w ∈ wsX40, w ∈ wsX4_makeEmpty := fun w h => List.mem_cons_of_mem _ (List.mem_append_right _ h)
  have k49 : Cond.fieldLink RX4 49 "PeatRailway$State" "tick" "I" ∈ wsX4_makeEmpty := by decide +kernel
  have k53 : Cond.fieldLink RX4 53 "PeatRailway$State" "blockCount" "I" ∈ wsX4_makeEmpty := by decide +kernel
  have k56 : Cond.fieldLink RX4 56 "PeatRailway$State" "trainCount" "I" ∈ wsX4_makeEmpty := by decide +kernel
  have k59 : Cond.fieldLink RX4 59 "PeatRailway$State" "removed" "I" ∈ wsX4_makeEmpty := by decide +kernel
  have k62 : Cond.fieldLink RX4 62 "PeatRailway$State" "added" "I" ∈ wsX4_makeEmpty := by decide +kernel
  refine z_eq (ws' := SW κ Sa g ++ []) ?_ rfl rfl rfl rfl
  refine z_aload_n C dX4_makeEmpty_0 0 rfl ?_
  refine z_iconst (v := nI 0) C dX4_makeEmpty_1 (by decide) ?_
  refine zs_put_tick C hin4 k49 dX4_makeEmpty_2 ?_
  refine z_aload_n C dX4_makeEmpty_5 0 rfl ?_
  refine z_iconst (v := nI 0) C dX4_makeEmpty_6 (by decide) ?_
  refine zs_put_blockCount C hin4 k53 dX4_makeEmpty_7 ?_
  refine z_aload_n C dX4_makeEmpty_10 0 rfl ?_
  refine z_iconst (v := nI 0) C dX4_makeEmpty_11 (by decide) ?_
  refine zs_put_trainCount C hin4 k56 dX4_makeEmpty_12 ?_
  refine z_aload_n C dX4_makeEmpty_15 0 rfl ?_
  refine z_iconst (v := nI 0) C dX4_makeEmpty_16 (by decide) ?_
  refine zs_put_removed C hin4 k59 dX4_makeEmpty_17 ?_
  refine z_aload_n C dX4_makeEmpty_20 0 rfl ?_
  refine z_iconst (v := nI 0) C dX4_makeEmpty_21 (by decide) ?_
  refine zs_put_added C hin4 k62 dX4_makeEmpty_22 ?_
  exact z_vret C hr9 hk (()) (rfl) (trivial) (List.Perm.of_eq rfl) dX4_makeEmpty_25 (Nat.le_refl _) (Nat.le_refl _)
theorem hdX4_makeEmpty : yX4_makeEmpty.cls = RX4 ∧ yX4_makeEmpty.cls ≠ "java/lang/invoke/MethodHandle" ∧ yX4_makeEmpty.cls ≠ "java/lang/invoke/VarHandle" ∧ (parseMethodDescriptor yX4_makeEmpty.desc).map (fun d => d.parameters.length) = some 0 := by decide +kernel
set_option maxRecDepth 100000 in
set_option maxHeartbeats 4000000 in
theorem mX4_addBlock (l : Launch) (D : va_G) (κ : Nat → ClassId) (Sa : Nat → Nat) (g : Nat → Nat → Nat) (σ : Nat → Nat) (M : Nat) (a b c0 li be : Nat) (hr : Rep g σ) (hv : Inv M σ) (h9 : σ 1 < 10) (hm : c0 = if be = 1 then li else 0) : cR l yX4_addBlock wsX4_addBlock { frames := 0, cells := 0, slots := 0, locals := 0 } D κ Sa [.int (nI a), .int (nI b), .int (nI c0)] g none (fun g' => Rep g' (layS σ a b li be)) := by
  refine zM_of (cc := cX4_addBlock) (maxL := 5) (rt := none) [(0, .ref (Sa 0)), (1, .int (nI a)), (2, .int (nI b)), (3, .int (nI c0))] (by decide +kernel) rfl (Nat.le_of_ble_eq_true rfl) rfl ?_
  intro p e s m args below meth c A C hr9 hk hnm
  have C : zC p s m args c cX4_addBlock 5 wsX4_addBlock RX4 D (zTy κ) A := C
  have hin4 : ∀ w ∈ wsX40, w ∈ wsX4_addBlock := fun w h => List.mem_cons_of_mem _ (List.mem_append_right _ h)
  have k53 : Cond.fieldLink RX4 53 "PeatRailway$State" "blockCount" "I" ∈ wsX4_addBlock := by decide +kernel
  have k9 : Cond.fieldLink RX4 9 "PeatRailway$State" "length" "[I" ∈ wsX4_addBlock := by decide +kernel
  have k15 : Cond.fieldLink RX4 15 "PeatRailway$State" "depth" "[I" ∈ wsX4_addBlock := by decide +kernel
  have k18 : Cond.fieldLink RX4 18 "PeatRailway$State" "bendLimit" "[I" ∈ wsX4_addBlock := by decide +kernel
  have k21 : Cond.fieldLink RX4 21 "PeatRailway$State" "clear" "[Z" ∈ wsX4_addBlock := by decide +kernel
  have k25 : Cond.fieldLink RX4 25 "PeatRailway$State" "lost" "[I" ∈ wsX4_addBlock := by decide +kernel
  have k28 : Cond.fieldLink RX4 28 "PeatRailway$State" "occupant" "[I" ∈ wsX4_addBlock := by decide +kernel
  refine z_eq (ws' := SW κ Sa g ++ []) ?_ rfl rfl rfl rfl
  refine z_aload_n C dX4_addBlock_0 0 rfl ?_
  refine zs_get_blockCount C hin4 (x := σ 1) k53 dX4_addBlock_1 hr.1.s1 ?_
  refine z_istore C [(4, .int (nI (σ 1))), (0, .ref (Sa 0)), (1, .int (nI a)), (2, .int (nI b)), (3, .int (nI c0))] dX4_addBlock_4 (by decide) rfl ?_
  refine z_iload C dX4_addBlock_6 0 rfl ?_
  refine z_bipush (v := nI 10) C dX4_addBlock_8 (by decide) ?_
  refine zn_icmp_lt C 14 dX4_addBlock_10 (by decide) (by omega) (by omega) (fun h1 => ?_) (fun h2 => ?_)
  · refine z_aload_n C dX4_addBlock_14 1 rfl ?_
    refine zs_get_length C hin4 k9 dX4_addBlock_15 ?_
    refine z_iload C dX4_addBlock_18 0 rfl ?_
    refine z_iload_n C dX4_addBlock_20 2 rfl ?_
    refine zs_ast_length C (by omega) dX4_addBlock_21 ?_
    refine z_aload_n C dX4_addBlock_22 1 rfl ?_
    refine zs_get_depth C hin4 k15 dX4_addBlock_23 ?_
    refine z_iload C dX4_addBlock_26 0 rfl ?_
    refine z_iload_n C dX4_addBlock_28 3 rfl ?_
    refine zs_ast_depth C (by omega) dX4_addBlock_29 ?_
    refine z_aload_n C dX4_addBlock_30 1 rfl ?_
    refine zs_get_bendLimit C hin4 k18 dX4_addBlock_31 ?_
    refine z_iload C dX4_addBlock_34 0 rfl ?_
    refine z_iload_n C dX4_addBlock_36 4 rfl ?_
    refine zs_ast_bendLimit C (by omega) dX4_addBlock_37 ?_
    refine z_aload_n C dX4_addBlock_38 1 rfl ?_
    refine zs_get_clear C hin4 k21 dX4_addBlock_39 ?_
    refine z_iload C dX4_addBlock_42 0 rfl ?_
    refine z_iconst (v := nI 0) C dX4_addBlock_44 (by decide) ?_
    refine zs_ast_clear C (by omega) (by omega) dX4_addBlock_45 ?_
    refine z_aload_n C dX4_addBlock_46 1 rfl ?_
    refine zs_get_lost C hin4 k25 dX4_addBlock_47 ?_
    refine z_iload C dX4_addBlock_50 0 rfl ?_
    refine z_iconst (v := nI 0) C dX4_addBlock_52 (by decide) ?_
    refine zs_ast_lost C (by omega) dX4_addBlock_53 ?_
    refine z_aload_n C dX4_addBlock_54 1 rfl ?_
    refine zs_get_occupant C hin4 k28 dX4_addBlock_55 ?_
    refine z_iload C dX4_addBlock_58 0 rfl ?_
    refine z_iconst (v := (-1)) C dX4_addBlock_60 (by decide) ?_
    refine zs_ast_occupant C (x := 0) (by omega) dX4_addBlock_61 ?_
    refine z_aload_n C dX4_addBlock_62 1 rfl ?_
    refine z_iload C dX4_addBlock_63 0 rfl ?_
    refine z_iconst (v := nI 1) C dX4_addBlock_65 (by decide) ?_
    refine zn_iadd C dX4_addBlock_66 ?_
    refine zs_put_blockCount C hin4 k53 dX4_addBlock_67 ?_
    exact z_vret C hr9 hk (up2 (up2 (up2 (up2 (up2 (up2 (up2 g 5 (σ 1) a) 6 (σ 1) b) 7 (σ 1) c0) 8 (σ 1) 0) 9 (σ 1) 0) 10 (σ 1) 0) 1 0 ((σ 1) + 1)) (rfl) (hr.lay hv h9 hm) (List.Perm.of_eq rfl) dX4_addBlock_70 (Nat.le_refl _) (Nat.le_refl _)
  · exact z_vret C hr9 hk (g) (rfl) (absurd h9 (Nat.not_lt.mpr h2)) (List.Perm.of_eq rfl) dX4_addBlock_13 (Nat.le_refl _) (Nat.le_refl _)
theorem hdX4_addBlock : yX4_addBlock.cls = RX4 ∧ yX4_addBlock.cls ≠ "java/lang/invoke/MethodHandle" ∧ yX4_addBlock.cls ≠ "java/lang/invoke/VarHandle" ∧ (parseMethodDescriptor yX4_addBlock.desc).map (fun d => d.parameters.length) = some 3 := by decide +kernel
set_option maxRecDepth 100000 in
set_option maxHeartbeats 4000000 in
theorem mX4_addTrain (l : Launch) (D : va_G) (κ : Nat → ClassId) (Sa : Nat → Nat) (g : Nat → Nat → Nat) (σ : Nat → Nat) (M : Nat) (b w q : Nat) (hr : Rep g σ) (hv : Inv M σ) (h9 : σ 2 < 5) (hb : b < σ 1) (ho : occ σ b = false) (hw1 : 1 ≤ w) (hw : w ≤ 12) (hq1 : 1 ≤ q) (hq : q ≤ 5) : cR l yX4_addTrain wsX4_addTrain { frames := 0, cells := 0, slots := 0, locals := 0 } D κ Sa [.int (nI b), .int (nI w), .int (nI q)] g none (fun g' => Rep g' (setS σ b w q)) := by
  refine zM_of (cc := cX4_addTrain) (maxL := 6) (rt := none) [(0, .ref (Sa 0)), (1, .int (nI b)), (2, .int (nI w)), (3, .int (nI q))] (by decide +kernel) rfl (Nat.le_of_ble_eq_true rfl) rfl ?_
  intro p e s m args below meth c A C hr9 hk hnm
  have C : zC p s m args c cX4_addTrain 6 wsX4_addTrain RX4 D (zTy κ) A := C
  have hin4 : ∀ w ∈ wsX40, w ∈ wsX4_addTrain := fun w h => List.mem_cons_of_mem _ (List.mem_append_right _ h)
  have k56 : Cond.fieldLink RX4 56 "PeatRailway$State" "trainCount" "I" ∈ wsX4_addTrain := by decide +kernel
  have k31 : Cond.fieldLink RX4 31 "PeatRailway$State" "place" "[I" ∈ wsX4_addTrain := by decide +kernel
  have k34 : Cond.fieldLink RX4 34 "PeatRailway$State" "position" "[I" ∈ wsX4_addTrain := by decide +kernel
  have k37 : Cond.fieldLink RX4 37 "PeatRailway$State" "wagons" "[I" ∈ wsX4_addTrain := by decide +kernel
  have k40 : Cond.fieldLink RX4 40 "PeatRailway$State" "topSpeed" "[I" ∈ wsX4_addTrain := by decide +kernel
  have k43 : Cond.fieldLink RX4 43 "PeatRailway$State" "waits" "[I" ∈ wsX4_addTrain := by decide +kernel
  have k46 : Cond.fieldLink RX4 46 "PeatRailway$State" "passages" "[I" ∈ wsX4_addTrain := by decide +kernel
  have k28 : Cond.fieldLink RX4 28 "PeatRailway$State" "occupant" "[I" ∈ wsX4_addTrain := by decide +kernel
  have k62 : Cond.fieldLink RX4 62 "PeatRailway$State" "added" "I" ∈ wsX4_addTrain := by decide +kernel
  refine z_eq (ws' := SW κ Sa g ++ []) ?_ rfl rfl rfl rfl
  have hn1 := hv.n1
  refine z_aload_n C dX4_addTrain_0 0 rfl ?_
  refine zs_get_trainCount C hin4 (x := σ 2) k56 dX4_addTrain_1 hr.1.s2 ?_
  refine z_istore C [(4, .int (nI (σ 2))), (0, .ref (Sa 0)), (1, .int (nI b)), (2, .int (nI w)), (3, .int (nI q))] dX4_addTrain_4 (by decide) rfl ?_
  refine z_iload C dX4_addTrain_6 0 rfl ?_
  refine z_iconst (v := nI 5) C dX4_addTrain_8 (by decide) ?_
  refine zn_icmp_lt C 13 dX4_addTrain_9 (by decide) (by omega) (by omega) (fun h1 => ?_) (fun h2 => ?_)
  · refine z_aload_n C dX4_addTrain_13 1 rfl ?_
    refine zs_get_place C hin4 k31 dX4_addTrain_14 ?_
    refine z_iload C dX4_addTrain_17 0 rfl ?_
    refine z_iload_n C dX4_addTrain_19 2 rfl ?_
    refine zs_ast_place C (by omega) dX4_addTrain_20 ?_
    refine z_aload_n C dX4_addTrain_21 1 rfl ?_
    refine zs_get_position C hin4 k34 dX4_addTrain_22 ?_
    refine z_iload C dX4_addTrain_25 0 rfl ?_
    refine z_iconst (v := nI 0) C dX4_addTrain_27 (by decide) ?_
    refine zs_ast_position C (by omega) dX4_addTrain_28 ?_
    refine z_aload_n C dX4_addTrain_29 1 rfl ?_
    refine zs_get_wagons C hin4 k37 dX4_addTrain_30 ?_
    refine z_iload C dX4_addTrain_33 0 rfl ?_
    refine z_iload_n C dX4_addTrain_35 3 rfl ?_
    refine zs_ast_wagons C (by omega) dX4_addTrain_36 ?_
    refine z_aload_n C dX4_addTrain_37 1 rfl ?_
    refine zs_get_topSpeed C hin4 k40 dX4_addTrain_38 ?_
    refine z_iload C dX4_addTrain_41 0 rfl ?_
    refine z_iload_n C dX4_addTrain_43 4 rfl ?_
    refine zs_ast_topSpeed C (by omega) dX4_addTrain_44 ?_
    refine z_aload_n C dX4_addTrain_45 1 rfl ?_
    refine zs_get_waits C hin4 k43 dX4_addTrain_46 ?_
    refine z_iload C dX4_addTrain_49 0 rfl ?_
    refine z_iconst (v := nI 0) C dX4_addTrain_51 (by decide) ?_
    refine zs_ast_waits C (by omega) dX4_addTrain_52 ?_
    refine z_iconst (v := nI 0) C dX4_addTrain_53 (by decide) ?_
    refine z_istore C [(5, .int (nI 0)), (4, .int (nI (σ 2))), (0, .ref (Sa 0)), (1, .int (nI b)), (2, .int (nI w)), (3, .int (nI q))] dX4_addTrain_54 (by decide) rfl ?_
    refine z_lv [2, 3, 4, 5, 1, 0] rfl ?_
    refine z_loop (σ := Nat × (Nat → Nat)) (fun x => SW κ Sa (upA (up2 (up2 (up2 (up2 (up2 g 11 (σ 2) b) 12 (σ 2) 0) 13 (σ 2) w) 14 (σ 2) q) 15 (σ 2) 0) 16 x.2) ++ []) (fun x => [(0, .ref (Sa 0)), (1, .int (nI b)), (2, .int (nI w)), (3, .int (nI q)), (4, .int (nI (σ 2))), (5, .int (nI x.1))]) (fun x => x.1 ≤ 10 ∧ ∀ j, x.2 j = if σ 2 * 10 ≤ j ∧ j < σ 2 * 10 + x.1 then 0 else g 16 j) (fun x => 10 - x.1) ((0, g 16)) (⟨Nat.zero_le _, fun j => by dsimp only; rw [if_neg (by omega)]⟩) rfl rfl ?_
    rintro ⟨k, p⟩ hI56 ih56
    dsimp only at hI56 ih56 ⊢
    obtain ⟨hk1, hp1⟩ := hI56
    refine z_iload C dX4_addTrain_56 5 rfl ?_
    refine z_bipush (v := nI 10) C dX4_addTrain_58 (by decide) ?_
    refine zn_icmp_ge C 83 dX4_addTrain_60 (by decide) (by omega) (by omega) (fun h3 => ?_) (fun h4 => ?_)
    · refine z_aload_n C dX4_addTrain_83 0 rfl ?_
      refine zs_get_occupant C hin4 k28 dX4_addTrain_84 ?_
      refine z_iload_n C dX4_addTrain_87 1 rfl ?_
      refine z_iload C dX4_addTrain_88 4 rfl ?_
      refine zs_ast_occupant C (x := (σ 2) + 1) (by omega) dX4_addTrain_90 ?_
      refine z_aload_n C dX4_addTrain_91 0 rfl ?_
      refine z_dup C dX4_addTrain_92 rfl ?_
      refine zs_get_added C hin4 (x := σ 4) k62 dX4_addTrain_93 hr.1.s4 ?_
      refine z_iload_n C dX4_addTrain_96 2 rfl ?_
      refine zn_iadd C dX4_addTrain_97 ?_
      refine zs_put_added C hin4 k62 dX4_addTrain_98 ?_
      refine z_aload_n C dX4_addTrain_101 0 rfl ?_
      refine z_iload C dX4_addTrain_102 4 rfl ?_
      refine z_iconst (v := nI 1) C dX4_addTrain_104 (by decide) ?_
      refine zn_iadd C dX4_addTrain_105 ?_
      refine zs_put_trainCount C hin4 k56 dX4_addTrain_106 ?_
      exact z_vret C hr9 hk (atG g p (σ 2) b w q) (rfl) (hr.set hv h9 hb ho hw1 hw hq1 hq (fun j => by rw [hp1 j, show k = 10 from by omega])) (List.Perm.of_eq (show SW κ Sa (up2 (up2 (up2 (upA (up2 (up2 (up2 (up2 (up2 g 11 (σ 2) b) 12 (σ 2) 0) 13 (σ 2) w) 14 (σ 2) q) 15 (σ 2) 0) 16 p) 10 b ((σ 2) + 1)) 4 0 ((σ 4) + w)) 2 0 ((σ 2) + 1)) ++ [] = SW κ Sa (atG g p (σ 2) b w q) from by rw [← hr.1.s4]; rfl)) dX4_addTrain_109 (Nat.le_refl _) (Nat.le_refl _)
    · refine z_aload_n C dX4_addTrain_63 0 rfl ?_
      refine zs_get_passages C hin4 k46 dX4_addTrain_64 ?_
      refine z_iload C dX4_addTrain_67 4 rfl ?_
      refine z_bipush (v := nI 10) C dX4_addTrain_69 (by decide) ?_
      refine zn_imul C dX4_addTrain_71 ?_
      refine z_iload C dX4_addTrain_72 5 rfl ?_
      refine zn_iadd C dX4_addTrain_74 ?_
      refine z_iconst (v := nI 0) C dX4_addTrain_75 (by decide) ?_
      refine zs_ast_passages C (by omega) dX4_addTrain_76 ?_
      refine zn_iinc (n := 1) C [(5, .int (nI (k + 1))), (0, .ref (Sa 0)), (1, .int (nI b)), (2, .int (nI w)), (3, .int (nI q)), (4, .int (nI (σ 2)))] dX4_addTrain_77 5 rfl (by decide) rfl ?_
      refine z_goto (tgt := 56) C dX4_addTrain_80 (by decide) ?_
      refine z_lv [1, 2, 3, 4, 5, 0] rfl ?_
      exact ih56 (k + 1, upN p (σ 2 * 10 + k) 0) ⟨by dsimp only; omega, at_step hp1⟩ (by dsimp only; omega)
  · exact z_vret C hr9 hk (g) (rfl) (absurd h9 (Nat.not_lt.mpr h2)) (List.Perm.of_eq rfl) dX4_addTrain_12 (Nat.le_refl _) (Nat.le_refl _)
theorem hdX4_addTrain : yX4_addTrain.cls = RX4 ∧ yX4_addTrain.cls ≠ "java/lang/invoke/MethodHandle" ∧ yX4_addTrain.cls ≠ "java/lang/invoke/VarHandle" ∧ (parseMethodDescriptor yX4_addTrain.desc).map (fun d => d.parameters.length) = some 3 := by decide +kernel
end S3
