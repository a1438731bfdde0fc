section PURE3
theorem vq_congr {cA : ClassId} {n : Nat} {f g : Nat → Int32} (h : ∀ j, j < n → f j = g j) : vp_cell cA (n, .inl f) = vp_cell cA (n, .inl g) := by
  rw [vp_cell_i, vp_cell_i]
  have e : (fun j : Fin n => (Value.int (f j.val))) = (fun j : Fin n => (Value.int (g j.val))) := by
    funext j
    rw [h j.val j.isLt]
  simp only [arrV, e]
/-- one array's contents by others that agree with them -/
theorem zp_row {D : va_G} {cl : List vw_C} {X Y : va_W} {a : Nat} {cA : ClassId} {n : Nat} {f g : Nat → Int32} {H : Heap} (h : ∀ j, j < n → f j = g j) (hP : va_P D cl (X ++ (a, .inl (cA, n, .inl f)) :: Y) H) : va_P D cl (X ++ (a, .inl (cA, n, .inl g)) :: Y) H := by
  intro k q hk
  rcases Nat.lt_trichotomy k X.length with h1 | h1 | h1
  · exact hP k q (by rw [List.getElem?_append_left h1] at hk ⊢; exact hk)
  · subst h1
    rw [List.getElem?_append_right (Nat.le_refl _), Nat.sub_self] at hk
    obtain rfl : (a, (.inl (cA, n, .inl g) : va_E)) = q := Option.some.inj hk
    have h2 := hP X.length (a, .inl (cA, n, .inl f)) (by rw [List.getElem?_append_right (Nat.le_refl _), Nat.sub_self]; rfl)
    show H[a]? = some (vp_cell cA (n, .inl g))
    rw [← vq_congr h]
    exact h2
  · obtain ⟨d, rfl⟩ : ∃ d, k = X.length + d + 1 := ⟨k - X.length - 1, by omega⟩
    refine hP (X.length + d + 1) q ?_
    rw [List.getElem?_append_right (by omega), show X.length + d + 1 - X.length = d + 1 by omega] at hk ⊢
    exact hk
theorem zd_row {A : Nat → Prop} {X Y : va_W} {a : Nat} {e1 e2 : va_E} (hD : va_D A (X ++ (a, e1) :: Y)) : va_D A (X ++ (a, e2) :: Y) := by
  have key : ∀ (k : Nat) (q : Nat × va_E), (X ++ (a, e2) :: Y)[k]? = some q → ∃ q', (X ++ (a, e1) :: Y)[k]? = some q' ∧ q'.1 = q.1 := by
    intro k q hk
    rcases Nat.lt_trichotomy k X.length with h1 | h1 | h1
    · exact ⟨q, by rw [List.getElem?_append_left h1] at hk ⊢; exact hk, rfl⟩
    · subst h1
      rw [List.getElem?_append_right (Nat.le_refl _), Nat.sub_self] at hk
      obtain rfl : (a, e2) = q := Option.some.inj hk
      exact ⟨(a, e1), by rw [List.getElem?_append_right (Nat.le_refl _), Nat.sub_self]; rfl, rfl⟩
    · obtain ⟨d, rfl⟩ : ∃ d, k = X.length + d + 1 := ⟨k - X.length - 1, by omega⟩
      refine ⟨q, ?_, rfl⟩
      rw [List.getElem?_append_right (by omega), show X.length + d + 1 - X.length = d + 1 by omega] at hk ⊢
      exact hk
  refine ⟨fun i j p q hi hj he => ?_, fun k q hk => ?_⟩
  · obtain ⟨p', hp1, hp2⟩ := key i p hi
    obtain ⟨q', hq1, hq2⟩ := key j q hj
    exact hD.1 i j p' q' hp1 hq1 (by rw [hp2, hq2]; exact he)
  · obtain ⟨q', hq1, hq2⟩ := key k q hk
    rw [← hq2]
    exact hD.2 k q' hq1
section ZR
variable {p : Program} {l : Launch} {e : Env} {R : Room} {s : State} {m : MethodId} {args : Array Value} {below : List Frame} {meth : Method} {c : Code} {nL : Nat} {D : va_G} {A : Nat → Prop} {cells slots : Nat} {Q : State → Prop} {lv : List (Nat × Value)} {pc : Nat} {st : List Value}
theorem z_row {X Y : va_W} {a : Nat} {cA : ClassId} {n : Nat} {f : Nat → Int32} (g : Nat → Int32) (h : ∀ j, j < n → f j = g j) (k : zW p l e R s m args below meth c nL D A cells slots Q (X ++ (a, .inl (cA, n, .inl g)) :: Y) lv pc st) : zW p l e R s m args below meth c nL D A cells slots Q (X ++ (a, .inl (cA, n, .inl f)) :: Y) lv pc st := fun H locs ls hP hD hS hl => k H locs ls (zp_row h hP) (zd_row hD) hS hl
end ZR
section ZRM
variable {p : Program} {l : Launch} {e : Env} {R : Room} {s : State} {m : MethodId} {args : Array Value} {below : List Frame} {meth : Method} {c : Code} {nL : Nat} {D : va_G} {A : Nat → Prop} {cells slots : Nat} {Q : State → Prop} {lv : List (Nat × Value)} {pc : Nat} {st : List Value}
variable {κ : Nat → ClassId} {Ad : Nat → Nat} {eo : Int32} {ip : Nat → Int32} {v nw aw od sv ot : Nat → Nat}
end ZRM
/-- block numbers as the machine sees them -/
def isB (n : Nat) (x : Int32) : Bool := inI x (nI 0) (nI n - nI 1)
theorem isB_of {n : Nat} {x : Int32} (hn : n ≤ 1000) (h : isB n x = true) : ∃ k, k < n ∧ x = nI k := by
  simp only [isB, inI, Bool.and_eq_true, decide_eq_true_eq] at h
  obtain ⟨h1, h2⟩ := h
  obtain ⟨k, hk, rfl⟩ := nI_of (x := x) (fun q => by exact absurd h1 (Int32.not_le.mpr q))
  refine ⟨k, ?_, rfl⟩
  cases n with
  | zero => exact absurd h2 (fun q => by
      have h3 : nI k ≤ nI 0 - nI 1 := q
      have h4 : (0 : Int32) ≤ nI 0 - nI 1 := Int32.le_trans (nI_pos' hk) h3
      exact absurd h4 (by decide))
  | succ m =>
    rw [pk_sub (by omega)] at h2
    have := (nI_leI (a := k) (b := m + 1 - 1) hk (by omega)).mp h2
    omega
theorem isB_k {n k : Nat} (hn : n ≤ 1000) (hk : k < n) : isB n (nI k) = true := by
  simp only [isB, inI, Bool.and_eq_true, decide_eq_true_eq]
  refine ⟨nI_pos' (by omega), ?_⟩
  rw [pk_sub (by omega)]
  exact nI_le (by omega) (by omega)
theorem cp_step {τ σ src : Nat → Nat} {k x : Nat} (h : ∀ j, τ j = if j < k then src j else σ j) (hx : x = src k) (j : Nat) : upN τ k x j = if j < k + 1 then src j else σ j := by
  rw [upN_if, h j]
  by_cases hj : j = k
  · subst hj
    rw [if_pos rfl, if_pos (by omega), hx]
  · rw [if_neg hj]
    by_cases h2 : j < k
    · rw [if_pos h2, if_pos (by omega)]
    · rw [if_neg h2, if_neg (by omega)]
theorem cp_off {τ σ src : Nat → Nat} {b k i x : Nat} (h : ∀ j, τ j = if b ≤ j ∧ j < b + k then src (j - b) else σ j) (hi : i = b + k) (hx : x = src k) (j : Nat) : upN τ i x j = if b ≤ j ∧ j < b + (k + 1) then src (j - b) else σ j := by
  rw [upN_if, h j]
  by_cases hj : j = i
  · rw [if_pos hj, if_pos (by omega), hx, show j - b = k by omega]
  · rw [if_neg hj]
    by_cases h2 : b ≤ j ∧ j < b + k
    · rw [if_pos h2, if_pos (by omega)]
    · rw [if_neg h2, if_neg (by omega)]
/-- rows of rows -/
def hiF (h : Nat → Nat → Nat) : Nat → Nat := fun j => h (j / 140) (j % 140)
def dpL (σ : Nat → Nat) : Nat → Nat
  | 0 => 0
  | n + 1 => if dpL σ n = 0 then n + 1 else if σ (5 + 6 * (dpL σ n - 1) + 1) < σ (5 + 6 * n + 1) then n + 1 else dpL σ n
theorem dpL_le (σ : Nat → Nat) : ∀ n, dpL σ n ≤ n
  | 0 => Nat.le_refl _
  | n + 1 => by
    have := dpL_le σ n
    simp only [dpL]
    split
    · omega
    · split <;> omega
/-- no block below k, of the first n, is as deep as k -/
def fdL (σ : Nat → Nat) (b : Nat) : Nat → Bool
  | 0 => true
  | n + 1 => fdL σ b n && !decide (σ (5 + 6 * n + 1) = σ (5 + 6 * b + 1))
def ahd (σ : Nat → Nat) : Nat → Nat → Nat
  | 0, b => b
  | n + 1, b => if trAt σ b = 0 then ahd σ n (aft σ b) else b
def cbL (σ : Nat → Nat) : Nat → Nat → Nat
  | 0, _ => 0
  | n + 1, b => if occ σ b = true then 0 else 1 + cbL σ n (aft σ b)
theorem svB : ∀ a, a < 4 → ∀ k, k < 2 → ((nI a) >>> (nI k &&& 31)) &&& nI 1 = nI (a / 2 ^ k % 2) := by decide
def svO (a k : Nat) : Nat := if a / 2 ^ k % 2 = 0 then a + 2 ^ k else a
theorem svO_eq : ∀ a, a < 4 → ∀ k, k < 2 → (nI a) ||| ((nI 1) <<< (nI k &&& 31)) = nI (svO a k) := by decide
end PURE3
