section M1
/-- v >= low && v <= high over the machine's numbers -/
def inI (v lo hi : Int32) : Bool := decide (lo ≤ v) && decide (v ≤ hi)
theorem inI_n {a b : Int32} (x : Int32) (h1 : ¬ x < a) (h2 : ¬ b < x) : inI x a b = true := by
  simp only [inI, Bool.and_eq_true, decide_eq_true_eq]
  exact ⟨Int32.not_lt.mp h1, Int32.not_lt.mp h2⟩
theorem inI_lo {a b : Int32} (x : Int32) (h1 : x < a) : inI x a b = false := by
  simp only [inI, Bool.and_eq_false_iff, decide_eq_false_iff_not]
  exact Or.inl (Int32.not_le.mpr h1)
theorem inI_hi {a b : Int32} (x : Int32) (h1 : b < x) : inI x a b = false := by
  simp only [inI, Bool.and_eq_false_iff, decide_eq_false_iff_not]
  exact Or.inr (Int32.not_le.mpr h1)
end M1
