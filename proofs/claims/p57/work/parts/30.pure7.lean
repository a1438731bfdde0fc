section PURE7
abbrev Ept (α : Type) : Type := (Nat × Nat) ⊕ α
def bdS {α β : Type} (r : Ept α) (f : α → Ept β) : Ept β := match r with
  | .inl e => .inl e
  | .inr a => f a
theorem bdS_l {α β : Type} {e : Nat × Nat} {f : α → Ept β} : bdS (.inl e : Ept α) f = .inl e := rfl
theorem bdS_r {α β : Type} {a : α} {f : α → Ept β} : bdS (.inr a : Ept α) f = f a := rfl
/-- a number from lo, below hX -/
def pNum (ip : Nat → Int32) (lo hX : Nat) (T : Tok) : Ept Nat :=
  if T.1 = 2 then (if lo ≤ numV ip T.2.1 (T.2.2 - T.2.1) ∧ numV ip T.2.1 (T.2.2 - T.2.1) < hX then .inr (numV ip T.2.1 (T.2.2 - T.2.1)) else .inl (2, T.2.1)) else .inl (1, T.2.1)
abbrev PSt : Type := (Nat → Nat) × Tok
def pBlock (ip : Nat → Int32) (n : Nat) (σ : Nat → Nat) (T : Tok) : Ept PSt :=
  if σ 1 = 10 then .inl (4, T.2.1) else
    bdS (pNum ip 1 21 (nxT ip n T)) fun a => bdS (pNum ip 0 10 (nxT ip n (nxT ip n T))) fun b =>
      if kyM 2 ip (nxT ip n (nxT ip n (nxT ip n T))) = true then
        bdS (pNum ip 1 6 (nxT ip n (nxT ip n (nxT ip n (nxT ip n T))))) fun c => .inr (layS σ a b c 1, nxT ip n (nxT ip n (nxT ip n (nxT ip n (nxT ip n T)))))
      else .inr (layS σ a b 5 0, nxT ip n (nxT ip n (nxT ip n T)))
def pTrain (ip : Nat → Int32) (n : Nat) (σ : Nat → Nat) (T : Tok) : Ept PSt :=
  if σ 2 = 5 then .inl (4, T.2.1) else
    bdS (pNum ip 0 (σ 1) (nxT ip n T)) fun a =>
      if occ σ a = true then .inl (3, (nxT ip n T).2.1) else
        bdS (pNum ip 1 13 (nxT ip n (nxT ip n T))) fun b => bdS (pNum ip 1 6 (nxT ip n (nxT ip n (nxT ip n T)))) fun c =>
          .inr (setS σ a b c, nxT ip n (nxT ip n (nxT ip n (nxT ip n T))))
def pPull (ip : Nat → Int32) (n : Nat) (σ : Nat → Nat) (T : Tok) : Ept PSt :=
  bdS (pNum ip 0 (σ 1) (nxT ip n T)) fun a => if rsn σ a = 0 then .inr (upN σ (5 + 6 * a + 4) 1, nxT ip n (nxT ip n T)) else .inl (5, (nxT ip n T).2.1)
def pDanger (ip : Nat → Int32) (n : Nat) (σ : Nat → Nat) (T : Tok) : Ept PSt :=
  bdS (pNum ip 0 (σ 1) (nxT ip n T)) fun a => if σ (5 + 6 * a + 4) = 0 then .inl (5, (nxT ip n T).2.1) else .inr (upN σ (5 + 6 * a + 4) 0, nxT ip n (nxT ip n T))
def pRepair (ip : Nat → Int32) (n : Nat) (σ : Nat → Nat) (T : Tok) : Ept PSt :=
  bdS (pNum ip 0 (σ 1) (nxT ip n T)) fun a => if trAt σ a = 0 then .inr (upN σ (5 + 6 * a + 1) 0, nxT ip n (nxT ip n T)) else .inl (5, (nxT ip n T).2.1)
def pTicks (ip : Nat → Int32) (n : Nat) (σ : Nat → Nat) (T : Tok) : Ept PSt :=
  bdS (pNum ip 1 ((if 9999 - σ 0 < 99 then 9999 - σ 0 else 99) + 1) (nxT ip n T)) fun a => .inr (psS a σ, nxT ip n (nxT ip n T))
def pLine (ip : Nat → Int32) (n : Nat) (σ : Nat → Nat) (T : Tok) : Ept PSt :=
  if kyM 1 ip T = true then pBlock ip n σ T else if kyM 3 ip T = true then pTrain ip n σ T else if kyM 4 ip T = true then pPull ip n σ T
  else if kyM 5 ip T = true then pDanger ip n σ T else if kyM 6 ip T = true then pRepair ip n σ T else if kyM 7 ip T = true then pTicks ip n σ T else .inl (1, T.2.1)
def pLoop (ip : Nat → Int32) (n : Nat) : Nat → (Nat → Nat) → Tok → Ept (Nat → Nat)
  | 0, σ, _ => .inr σ
  | F + 1, σ, T => if T.1 = 0 then .inr σ else if T.1 = 3 then bdS (pLine ip n σ (nxT ip n T)) fun r => pLoop ip n F r.1 r.2 else .inl (1, T.2.1)
def pText (ip : Nat → Int32) (n : Nat) : Ept (Nat → Nat) :=
  if kyM 0 ip (nxT ip n (0, 0, 0)) = true then pLoop ip n (n + 1) (fun _ => 0) (nxT ip n (nxT ip n (0, 0, 0))) else .inl (1, (nxT ip n (0, 0, 0)).2.1)
theorem pNum_lt {ip : Nat → Int32} {a b x : Nat} {T : Tok} (h : pNum ip a b T = .inr x) : x < b := by
  simp only [pNum] at h
  split at h
  · split at h
    · rename_i h2
      have := Sum.inr.inj h
      omega
    · cases h
  · cases h
theorem pNum_ge {ip : Nat → Int32} {a b x : Nat} {T : Tok} (h : pNum ip a b T = .inr x) : a ≤ x := by
  simp only [pNum] at h
  split at h
  · split at h
    · rename_i h2
      have := Sum.inr.inj h
      omega
    · cases h
  · cases h
theorem inI_nn {x a b : Nat} (hx : x < 2147483648) (ha : a < 2147483648) (hb : b < 2147483648) : inI (nI x) (nI a) (nI b) = (decide (a ≤ x) && decide (x ≤ b)) := by
  simp only [inI]
  rw [decide_eq_decide.mpr (zq_le ha hx), decide_eq_decide.mpr (zq_le hx hb)]
theorem hh_lit {lo b hX : Nat} (hl : lo < 2147483648) (hb : b < 2147483648) (h : hX = b + 1) : ∀ x, x ≤ 999 → inI (nI x) (nI lo) (nI b) = (decide (lo ≤ x) && decide (x < hX)) := by
  intro x hx
  rw [inI_nn (by omega) hl hb, h, decide_eq_decide.mpr (show x ≤ b ↔ x < b + 1 by omega)]
theorem hh_blk {m : Nat} (hm : m ≤ 10) : ∀ x, x ≤ 999 → inI (nI x) (nI 0) (nI m - nI 1) = (decide (0 ≤ x) && decide (x < m)) := by
  intro x hx
  show isB m (nI x) = _
  rw [decide_eq_true (Nat.zero_le x), Bool.true_and]
  by_cases h : x < m
  · rw [isB_k (by omega) h, decide_eq_true h]
  · rw [decide_eq_false h]
    cases hq : isB m (nI x) with
    | false => rfl
    | true =>
      obtain ⟨k, hk, he⟩ := isB_of (by omega) hq
      have := (zq_eq (by omega) (by omega)).mp he
      omega
theorem kyF_le (j : Nat) : kyF j ≤ 122 := by
  have h : ∀ x, x ∈ kyL → x ≤ 122 := by decide
  simp only [kyF]
  rcases Nat.lt_or_ge j kyL.length with hj | hj
  · rw [List.getD_eq_getElem?_getD, List.getElem?_eq_getElem hj]
    exact h _ (List.getElem_mem hj)
  · rw [List.getD_eq_getElem?_getD, List.getElem?_eq_none hj]
    exact Nat.zero_le _
theorem Fz.rf (v : Nat → Nat) : Fz v v := fun _ _ => rfl
theorem Fz.tr {a b c : Nat → Nat} (h1 : Fz a b) (h2 : Fz b c) : Fz a c := fun j hj => (h2 j hj).trans (h1 j hj)
theorem Fz.up {a b : Nat → Nat} {k x : Nat} (h : Fz a b) (hk : 15 ≤ k) : Fz a (upN b k x) := fun j hj => by rw [upN_n (by omega)]; exact h j hj
end PURE7
