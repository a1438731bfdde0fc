section QB
theorem tkS_4 (σ : Nat → Nat) {j : Nat} (h1 : 0 < j) (h : j < 5) : tkS σ j = σ j := by
  show mvLS (σ 2) 0 (upN σ 0 (σ 0 + 1)) j = σ j
  rw [mvLS_lo _ _ _ h, upN_n (by omega)]
theorem psS_4 : ∀ (n : Nat) (σ : Nat → Nat) {j : Nat}, 0 < j → j < 5 → psS n σ j = σ j
  | 0, _, _, _, _ => rfl
  | n + 1, σ, j, h1, h => (psS_4 n (tkS σ) h1 h).trans (tkS_4 σ h1 h)
theorem Bal.ps {M n : Nat} {σ : Nat → Nat} (h : Bal σ) (hI : Inv M σ) (hM : M + 11 * n < 1073741824) : Bal (psS n σ) := by
  simp only [Bal]
  rw [(psS_q n σ hI hM).1, psS_4 n σ (by decide) (by decide)]
  exact h
theorem Bal.clr {σ : Nat → Nat} {b x k : Nat} (h : Bal σ) (hk : k = 1 ∨ k = 4) (hb : b < σ 1) (h10 : σ 1 ≤ 10) : Bal (upN σ (5 + 6 * b + k) x) := by
  simp only [Bal]
  rw [upN_n (by omega), WL_ext (σ := σ) (fun j hj => upN_n (by omega)) (fun j hj => upN_n (by omega)) (fun j hj => upN_n (by omega))]
  exact h
theorem Bal.top {σ : Nat → Nat} {t x : Nat} (h : Bal σ) (h10 : σ 1 ≤ 10) (ht : t < σ 2) (h5 : σ 2 ≤ 5) : Bal (upN σ (65 + 5 * t + 1) x) := by
  simp only [Bal]
  rw [upN_n (by omega), WL_ext (σ := σ) (fun j hj => upN_n (by omega)) (fun j hj => upN_n (by omega)) (fun j hj => upN_n (by omega))]
  exact h
theorem Bal.rem {σ : Nat → Nat} {b : Nat} (h : Bal σ) (hb : b < σ 1) (h10 : σ 1 ≤ 10) : Bal (upN (upN σ (5 + 6 * b + 5) 0) 3 (σ 3 + σ (5 + 6 * b + 5))) := by
  simp only [Bal, WL] at h ⊢
  have e1 := sumL_one (f := fun k => σ (5 + 6 * k + 5)) (g := fun k => upN (upN σ (5 + 6 * b + 5) 0) 3 (σ 3 + σ (5 + 6 * b + 5)) (5 + 6 * k + 5)) (i := b) (σ 1) hb (fun k hk hne => by
    show upN _ _ _ (5 + 6 * k + 5) = σ (5 + 6 * k + 5)
    rw [upN_n (by omega), upN_n (by omega)])
  rw [upN_n (j := 5 + 6 * b + 5) (by omega), upN_s] at e1
  rw [upN_n (j := 2) (by omega), upN_n (j := 2) (by omega), upN_n (j := 1) (by omega), upN_n (j := 1) (by omega), upN_s, upN_n (j := 4) (by omega), upN_n (j := 4) (by omega), sumL_congr (f := fun k => upN (upN σ (5 + 6 * b + 5) 0) 3 (σ 3 + σ (5 + 6 * b + 5)) (65 + 5 * k + 0)) (g := fun k => σ (65 + 5 * k + 0)) (σ 2) (fun k hk => by rw [upN_n (by omega), upN_n (by omega)])]
  omega
theorem Bal.add {σ : Nat → Nat} {t n : Nat} (h : Bal σ) (ht : t < σ 2) (h5 : σ 2 ≤ 5) (h10 : σ 1 ≤ 10) : Bal (upN (upN σ (65 + 5 * t + 0) (σ (65 + 5 * t + 0) + n)) 4 (σ 4 + n)) := by
  simp only [Bal, WL] at h ⊢
  have e1 := sumL_one (f := fun k => σ (65 + 5 * k + 0)) (g := fun k => upN (upN σ (65 + 5 * t + 0) (σ (65 + 5 * t + 0) + n)) 4 (σ 4 + n) (65 + 5 * k + 0)) (i := t) (σ 2) ht (fun k hk hne => by
    show upN _ _ _ (65 + 5 * k + 0) = σ (65 + 5 * k + 0)
    rw [upN_n (by omega), upN_n (by omega)])
  rw [upN_n (j := 65 + 5 * t + 0) (by omega), upN_s] at e1
  rw [upN_n (j := 2) (by omega), upN_n (j := 2) (by omega), upN_n (j := 1) (by omega), upN_n (j := 1) (by omega), upN_s, upN_n (j := 3) (by omega), upN_n (j := 3) (by omega), sumL_congr (f := fun k => upN (upN σ (65 + 5 * t + 0) (σ (65 + 5 * t + 0) + n)) 4 (σ 4 + n) (5 + 6 * k + 5)) (g := fun k => σ (5 + 6 * k + 5)) (σ 1) (fun k hk => by rw [upN_n (by omega), upN_n (by omega)])]
  omega
/-- a lever pulled: its block's reason is 3 then, no other block's is another -/
theorem rsn_pull {σ : Nat → Nat} {b : Nat} (hb : b < σ 1) (h10 : σ 1 ≤ 10) (h5 : σ 2 ≤ 5) (h0 : rsn σ b = 0) (c : Nat) : rsn (upN σ (5 + 6 * b + 4) 1) c = if c = b then 3 else rsn σ c := by
  have h2 : upN σ (5 + 6 * b + 4) 1 2 = σ 2 := upN_n (by omega)
  have hp : ∀ t, t < σ 2 → upN σ (5 + 6 * b + 4) 1 (65 + 5 * t + 2) = σ (65 + 5 * t + 2) := fun t ht => upN_n (by omega)
  have ht := fun x => trAt_ext h2 hp x
  have ho := fun x => occ_ext (b := x) h2 hp (upN_n (by omega))
  have ha : aft (upN σ (5 + 6 * b + 4) 1) c = aft σ c := by
    simp only [aft]
    rw [upN_n (by omega)]
  simp only [rsn]
  rw [ht, ho, ha, upN_n (j := 5 + 6 * c + 5) (by omega), upN_n (j := 5 + 6 * c + 3) (by omega), upN_if]
  by_cases q : c = b
  · subst q
    rw [if_pos rfl, if_pos rfl]
    simp only [rsn] at h0
    split at h0
    · omega
    rename_i z1
    split at h0
    · omega
    rename_i z2
    rw [if_neg z1, if_neg z2, if_pos rfl]
  · rw [if_neg (show ¬ 5 + 6 * c + 4 = 5 + 6 * b + 4 by omega), if_neg q]
theorem free_pull {σ : Nat → Nat} {b : Nat} (hb : b < σ 1) (h10 : σ 1 ≤ 10) (h5 : σ 2 ≤ 5) (h0 : rsn σ b = 0) : sumL (fun i => if rsn (upN σ (5 + 6 * b + 4) 1) i = 0 then 1 else 0) (upN σ (5 + 6 * b + 4) 1 1) + 1 = sumL (fun i => if rsn σ i = 0 then 1 else 0) (σ 1) := by
  have e := sumL_one (f := fun i => if rsn σ i = 0 then 1 else 0) (g := fun i => if rsn (upN σ (5 + 6 * b + 4) 1) i = 0 then 1 else 0) (i := b) (σ 1) hb (fun k hk hne => by
    show (if rsn (upN σ (5 + 6 * b + 4) 1) k = 0 then 1 else 0) = if rsn σ k = 0 then 1 else 0
    rw [rsn_pull hb h10 h5 h0 k, if_neg hne])
  rw [rsn_pull hb h10 h5 h0 b, if_pos rfl, h0] at e
  rw [upN_n (j := 1) (by omega)]
  simp only [if_pos, show ¬ (3 = 0) by decide, if_false] at e
  omega
/-- the blocks ahead, as the law counts them -/
def clL (σ : Nat → Nat) (p : Nat) : Nat → Nat
  | 0 => 0
  | s + 1 => clL σ p s + (if clL σ p s = s ∧ occ σ ((p + (s + 1)) % σ 1) = false then 1 else 0)
def ahL (σ : Nat → Nat) (p : Nat) : Nat → Nat
  | 0 => 0
  | s + 1 => if ahL σ p s = 0 then trAt σ ((p + (s + 1)) % σ 1) else ahL σ p s
theorem clL_le (σ : Nat → Nat) (p : Nat) : ∀ s, clL σ p s ≤ s
  | 0 => Nat.le_refl _
  | s + 1 => by
    have := clL_le σ p s
    simp only [clL]
    split <;> omega
theorem aft_mod {σ : Nat → Nat} {p s : Nat} (h1 : 0 < σ 1) : aft σ ((p + s) % σ 1) = (p + (s + 1)) % σ 1 := by
  have hl := Nat.mod_lt (p + s) h1
  simp only [aft]
  rw [show p + (s + 1) = (p + s) + 1 by omega, Nat.add_mod (p + s) 1 (σ 1)]
  generalize (p + s) % σ 1 = r at hl
  by_cases q : r + 1 = σ 1
  · rw [if_pos q]
    rcases Nat.lt_or_ge 1 (σ 1) with z | z
    · rw [Nat.mod_eq_of_lt z, q, Nat.mod_self]
    · rw [show σ 1 = 1 by omega, Nat.mod_one]
  · rw [if_neg q]
    rw [Nat.mod_eq_of_lt (show 1 < σ 1 by omega), Nat.mod_eq_of_lt (show r + 1 < σ 1 by omega)]
theorem dst_q {σ : Nat → Nat} {p : Nat} (hp : p < σ 1) : dst σ p (aft σ p) = σ 1 - 1 := by
  simp only [dst, aft]
  split
  · split <;> omega
  · split <;> omega
theorem clL_ok {σ : Nat → Nat} {p : Nat} (h1 : 0 < σ 1) : ∀ s, s ≤ σ 1 - 1 → (clL σ p s = s → cbL σ (σ 1) (aft σ (p % σ 1)) = s + cbL σ (σ 1 - s) ((p + (s + 1)) % σ 1)) ∧ (clL σ p s < s → cbL σ (σ 1) (aft σ (p % σ 1)) = clL σ p s)
  | 0, _ => by
    refine ⟨fun _ => ?_, fun h => absurd h (Nat.not_lt_zero _)⟩
    have := aft_mod (σ := σ) (p := p) (s := 0) h1
    rw [Nat.add_zero] at this
    rw [this, Nat.zero_add, Nat.sub_zero, Nat.zero_add]
  | s + 1, hs => by
    obtain ⟨a1, a2⟩ := clL_ok h1 s (by omega)
    have hle := clL_le σ p s
    simp only [clL]
    by_cases q : clL σ p s = s
    · have hb := a1 q
      rw [show σ 1 - s = (σ 1 - (s + 1)) + 1 by omega] at hb
      simp only [cbL] at hb
      cases ho : occ σ ((p + (s + 1)) % σ 1) with
      | false =>
        rw [ho, if_neg (by decide), aft_mod h1] at hb
        rw [if_pos ⟨q, rfl⟩, q]
        refine ⟨fun _ => by rw [hb]; omega, fun z => absurd z (Nat.lt_irrefl _)⟩
      | true =>
        rw [ho, if_pos rfl] at hb
        rw [if_neg (fun z => by cases z.2), q]
        refine ⟨fun z => by omega, fun _ => hb⟩
    · rw [if_neg (fun z => q z.1)]
      refine ⟨fun z => by omega, fun _ => ?_⟩
      rw [Nat.add_zero]
      exact a2 (by omega)
theorem cbA_ok {σ : Nat → Nat} {t : Nat} (ht : t < σ 2) (hp : σ (65 + 5 * t + 2) < σ 1) : clL σ (σ (65 + 5 * t + 2)) (σ 1 - 1) = cbA σ t := by
  have h1 : 0 < σ 1 := by omega
  simp only [cbA]
  rw [dst_q hp, show σ 1 - 1 + 1 = σ 1 by omega]
  have ho := occ_pl ht
  generalize σ (65 + 5 * t + 2) = p at hp ho
  obtain ⟨a1, a2⟩ := clL_ok (σ := σ) (p := p) h1 (σ 1 - 1) (Nat.le_refl _)
  rw [Nat.mod_eq_of_lt hp] at a1 a2
  have hle := clL_le σ p (σ 1 - 1)
  by_cases q : clL σ p (σ 1 - 1) = σ 1 - 1
  · rw [a1 q, show σ 1 - (σ 1 - 1) = 0 + 1 by omega, show p + (σ 1 - 1 + 1) = p + σ 1 by omega, Nat.add_mod_right, Nat.mod_eq_of_lt hp]
    simp only [cbL]
    rw [if_pos ho]
    omega
  · exact (a2 (by omega)).symm
theorem ahL_ok {σ : Nat → Nat} (hS : Sm σ) {t p : Nat} (ht : t < σ 2) (hp : p < σ 1) (he : σ (65 + 5 * t + 2) = p) : ∀ s, s ≤ σ 1 - 1 → (ahL σ p s = 0 → ahd σ (σ 1 - 1) (aft σ p) = ahd σ (σ 1 - 1 - s) ((p + (s + 1)) % σ 1)) ∧ (0 < ahL σ p s → trAt σ (ahd σ (σ 1 - 1) (aft σ p)) = ahL σ p s ∧ ahL σ p s ≠ t + 1)
  | 0, _ => by
    refine ⟨fun _ => ?_, fun h => absurd h (Nat.lt_irrefl _)⟩
    have := aft_mod (σ := σ) (p := p) (s := 0) (by omega)
    rw [Nat.add_zero, Nat.mod_eq_of_lt hp] at this
    rw [this, Nat.sub_zero]
  | s + 1, hs => by
    have h1 : 0 < σ 1 := by omega
    obtain ⟨a1, a2⟩ := ahL_ok hS ht hp he s (by omega)
    simp only [ahL]
    by_cases q : ahL σ p s = 0
    · rw [if_pos q]
      have hb := a1 q
      rw [show σ 1 - 1 - s = (σ 1 - 1 - (s + 1)) + 1 by omega] at hb
      simp only [ahd] at hb
      by_cases z : trAt σ ((p + (s + 1)) % σ 1) = 0
      · rw [if_pos z, aft_mod h1] at hb
        exact ⟨fun _ => hb, fun y => by omega⟩
      · rw [if_neg z] at hb
        refine ⟨fun y => absurd y z, fun _ => ⟨by rw [hb], fun y => ?_⟩⟩
        have := (trAt_iff hS ht).mp y
        rw [he] at this
        have hne : (p + (s + 1)) % σ 1 ≠ p := by
          rcases Nat.lt_or_ge (p + (s + 1)) (σ 1) with c | c
          · rw [Nat.mod_eq_of_lt c]
            omega
          · rw [Nat.mod_eq_sub_mod c, Nat.mod_eq_of_lt (by omega)]
            omega
        exact hne this.symm
    · rw [if_neg q]
      exact ⟨fun y => absurd y q, fun _ => a2 (by omega)⟩
theorem ahT_ok {σ : Nat → Nat} (hS : Sm σ) {t : Nat} (ht : t < σ 2) : ahL σ (σ (65 + 5 * t + 2)) (σ 1 - 1) = ahT σ t := by
  have hp := (hS.2.1 t ht).2.2.2.2.1
  obtain ⟨a1, a2⟩ := ahL_ok hS ht hp rfl (σ 1 - 1) (Nat.le_refl _)
  have eB : ahB σ t = ahd σ (σ 1 - 1) (aft σ (σ (65 + 5 * t + 2))) := by
    show ahd σ (dst σ (σ (65 + 5 * t + 2)) (aft σ (σ (65 + 5 * t + 2)))) (aft σ (σ (65 + 5 * t + 2))) = _
    rw [dst_q hp]
  show _ = if trAt σ (ahB σ t) = t + 1 then 0 else trAt σ (ahB σ t)
  rw [eB]
  by_cases q : ahL σ (σ (65 + 5 * t + 2)) (σ 1 - 1) = 0
  · rw [a1 q, Nat.sub_self, show σ (65 + 5 * t + 2) + (σ 1 - 1 + 1) = σ (65 + 5 * t + 2) + σ 1 by omega, Nat.add_mod_right, Nat.mod_eq_of_lt hp]
    show _ = if trAt σ (σ (65 + 5 * t + 2)) = t + 1 then 0 else trAt σ (σ (65 + 5 * t + 2))
    rw [if_pos ((trAt_iff hS ht).mpr rfl), q]
  · obtain ⟨b1, b2⟩ := a2 (by omega)
    rw [b1, if_neg b2]
/-- the ticks to the end of the block -/
theorem tte_ok {way sp : Nat} (h1 : 1 ≤ sp) (h5 : sp ≤ 5) : way ≤ (way + sp - 1) / sp * sp ∧ ((way + sp - 1) / sp = 0 ∨ ((way + sp - 1) / sp - 1) * sp < way) := by
  rcases (show sp = 1 ∨ sp = 2 ∨ sp = 3 ∨ sp = 4 ∨ sp = 5 by omega) with rfl | rfl | rfl | rfl | rfl <;> omega
theorem shr_ok {σ : Nat → Nat} (hS : Sm σ) : sumL (fun i => sumL (fun b => if σ (65 + 5 * i + 2) = σ (65 + 5 * b + 2) then 1 else 0) i) (σ 2) = 0 :=
  sumL_z _ (fun i hi => sumL_z _ (fun b hb => if_neg (fun q => by have := hS.2.2.1 i b hi (by omega) q; omega)))
theorem pull_pos {σ : Nat → Nat} {b : Nat} (hb : b < σ 1) (h10 : σ 1 ≤ 10) : 1 ≤ sumL (fun i => upN σ (5 + 6 * b + 4) 1 (5 + 6 * i + 4)) (upN σ (5 + 6 * b + 4) 1 1) := by
  rw [upN_n (j := 1) (by omega)]
  have := sumL_mem (f := fun i => upN σ (5 + 6 * b + 4) 1 (5 + 6 * i + 4)) (σ 1) hb
  rwa [upN_s] at this
end QB
