section Q5
theorem mX2_takeNumber_Tok (l : Launch) (D : va_G) (κ : Nat → ClassId) (Pa Sa : Nat → Nat) (eo : Int32) (v : Nat → Nat) (tx : Nat → Int32) (n : Nat) (T : Tok) (lo : Nat) (hi : Int32) (hX a : Nat) (hT : CT tx n v T) (hlo : lo < 1000) (hh : ∀ x, x ≤ 999 → inI (nI x) (nI lo) hi = (decide (lo ≤ x) && decide (x < hX))) (hp : pNum tx lo hX T = .inr a) : pM l yX2_takeNumber wsX2_takeNumber { frames := 2, cells := 0, slots := 0, locals := 46 } D κ Pa Sa [.int (nI lo), .int hi] eo v tx (some (.int (nI a))) eo (rdV tx v) tx := by
  obtain ⟨h5, hn, h7, h8, ha, hb, hk, h6, h2, -⟩ := hT
  simp only [pNum] at hp
  split at hp
  · rename_i q
    split at hp
    · rename_i q2
      obtain rfl := Sum.inr.inj hp
      obtain ⟨d1, d2⟩ := h2 q
      rw [← h7, ← h8] at q2 ⊢
      exact mX2_takeNumber_ok l D κ Pa Sa eo v tx lo hi hX (by omega) (by omega) (by omega) (by omega) (by omega) (fun j hj => d2 (v 7 + j) (by omega) (by omega)) hlo q2 hh
    · cases hp
  · cases hp
theorem mX2_takeNumber_Ter (l : Launch) (D : va_G) (κ : Nat → ClassId) (Pa Sa : Nat → Nat) (eo : Int32) (v : Nat → Nat) (tx : Nat → Int32) (n : Nat) (T : Tok) (lo : Nat) (hi : Int32) (hX c o : Nat) (hT : CT tx n v T) (hlo : lo < 1000) (hh : ∀ x, x ≤ 999 → inI (nI x) (nI lo) hi = (decide (lo ≤ x) && decide (x < hX))) (hp : pNum tx lo hX T = .inl (c, o)) : pM l yX2_takeNumber wsX2_takeNumber { frames := 2, cells := 0, slots := 0, locals := 46 } D κ Pa Sa [.int (nI lo), .int hi] eo v tx (some (.int (-1))) (nI o) (upN v 2 c) tx := by
  obtain ⟨h5, hn, h7, h8, ha, hb, hk, h6, h2, -⟩ := hT
  simp only [pNum] at hp
  split at hp
  · rename_i q
    split at hp
    · cases hp
    · rename_i q2
      have hc := Sum.inl.inj hp
      obtain ⟨d1, d2⟩ := h2 q
      obtain ⟨rfl, rfl⟩ := Prod.mk.inj hc
      rw [← h7, ← h8] at q2
      rw [← h7]
      exact mX2_takeNumber_e2 l D κ Pa Sa eo v tx lo hi hX (by omega) (by omega) (by omega) (by omega) (by omega) (fun j hj => d2 (v 7 + j) (by omega) (by omega)) hlo q2 hh
  · rename_i q
    have hc := Sum.inl.inj hp
    obtain ⟨rfl, rfl⟩ := Prod.mk.inj hc
    rw [← h7]
    exact mX2_takeNumber_e1 l D κ Pa Sa eo v tx lo hi hX (by omega) (by omega) (by omega) (by omega) (by omega)
theorem mX2_takeWord_Ty (l : Launch) (D : va_G) (κ : Nat → ClassId) (adK adV : Nat → Nat) (Pa Sa : Nat → Nat) (eo : Int32) (v : Nat → Nat) (tx : Nat → Int32) (n : Nat) (T : Tok) (ki i : Nat) (hT : CT tx n v T) (hi : i < 28) (hw : kwP ki i) (hp : kyM ki tx T = true) : pMc adK adV l yX2_takeWord wsX2_takeWord { frames := 4, cells := 0, slots := 0, locals := 85 } D κ Pa Sa [.ref (adK i)] eo v tx (some (.int (nI 1))) eo (rdV tx v) tx := by
  obtain ⟨h5, hn, h7, h8, ha, hb, hk, h6, -, h1⟩ := hT
  obtain ⟨k1, k2, k3⟩ := kw_yes hw h1 hp
  rw [← h7, ← h8] at k2
  rw [← h7] at k3
  exact mX2_takeWord_yes l D κ adK adV Pa Sa eo v tx i (by omega) (by omega) (by omega) hi (by omega) k2 k3
theorem mX2_takeWord_Tn (l : Launch) (D : va_G) (κ : Nat → ClassId) (adK adV : Nat → Nat) (Pa Sa : Nat → Nat) (eo : Int32) (v : Nat → Nat) (tx : Nat → Int32) (n : Nat) (T : Tok) (ki i : Nat) (hT : CT tx n v T) (hi : i < 28) (hw : kwP ki i) (hp : kyM ki tx T = false) : pMc adK adV l yX2_takeWord wsX2_takeWord { frames := 4, cells := 0, slots := 0, locals := 85 } D κ Pa Sa [.ref (adK i)] eo v tx (some (.int (nI 0))) eo v tx := by
  obtain ⟨h5, hn, h7, h8, ha, hb, hk, h6, -, h1⟩ := hT
  have k := kw_no hw hp
  rw [← h7, ← h8] at k
  exact mX2_takeWord_no l D κ adK adV Pa Sa eo v tx i (by omega) (by omega) (by omega) hi (by omega) (fun q => k (by omega))
end Q5
