section ENT
section ENTS
variable {args : Array Value} {s : State}
/-- the tables of digits -/
def dgtW (C : String) (f : Nat → Nat) : List Cond := (List.range 100).map (fun j => .eq (.elem (.static "java/lang/Integer" C "[B") (.int (Int32.ofNat j))) (.int (nI (f j))))
set_option maxRecDepth 20000 in
theorem dgtq_O : ((flatC narrow_1).drop 12).take 100 = dgtW "DigitOnes" dgO := by decide +kernel
set_option maxRecDepth 20000 in
theorem dgtq_T : ((flatC narrow_1).drop 115).take 100 = dgtW "DigitTens" dgT := by decide +kernel
theorem dgt_el {C : String} {f : Nat → Nat} {j : Nat} (hj : j < 100) : Cond.eq (.elem (.static "java/lang/Integer" C "[B") (.int (Int32.ofNat j))) (.int (nI (f j))) ∈ dgtW C f := List.mem_map.mpr ⟨j, List.mem_range.mpr hj, rfl⟩
theorem ent_d (hts : ∀ w ∈ lw_tb2, w.before args s = true) (hs : ∀ w ∈ flatC narrow_1, w.before args s = true) (A : Nat → Prop) (hA : ∀ a : Nat, a < s.heap.size → ¬ A a) : ∃ dO dT : Nat, dX dO dT A s s.heap := by
  obtain ⟨dO, h1, t1⟩ := va_Tof (tm := .static "java/lang/Integer" "DigitOnes" "[B") (ty := .byte) (N := 100) (f := fun j => .int (nI (dgO j))) (A := A) (by decide) (hs _ (by decide +kernel)) (va_eqt (hs (.eq (.length (.static "java/lang/Integer" "DigitOnes" "[B")) (.int 100)) (by decide +kernel))) (fun j hj => va_eqt (hs _ (mem_dt dgtq_O (dgt_el hj)))) hA
  obtain ⟨dT, h2, t2⟩ := va_Tof (tm := .static "java/lang/Integer" "DigitTens" "[B") (ty := .byte) (N := 100) (f := fun j => .int (nI (dgT j))) (A := A) (by decide) (hs _ (by decide +kernel)) (va_eqt (hs (.eq (.length (.static "java/lang/Integer" "DigitTens" "[B")) (.int 100)) (by decide +kernel))) (fun j hj => va_eqt (hs _ (mem_dt dgtq_T (dgt_el hj)))) hA
  exact ⟨dO, dT, va_Zof (hts _ (by decide +kernel)) (hts _ (by decide +kernel)) h1 hA, t1, va_Zof (hts _ (by decide +kernel)) (hts _ (by decide +kernel)) h2 hA, t2⟩
theorem eq_ref {a b : Term} {q : Nat} (ha : a.eval args s none [] s = some (.ref q)) (h : (Cond.eq a b).before args s = true) : b.eval args s none [] s = some (.ref q) := by
  cases hv : b.eval args s none [] s with
  | none => simp [Cond.before, Cond.holds, Cond.value, ha, hv] at h
  | some w =>
    cases w with
    | ref q2 =>
      simp [Cond.before, Cond.holds, Cond.value, ha, hv] at h
      rw [h]
    | _ => simp [Cond.before, Cond.holds, Cond.value, ha, hv] at h
theorem ent_r (hts : ∀ w ∈ lw_tb2, w.before args s = true) (hs : ∀ w ∈ flatC narrow_1, w.before args s = true) (A : Nat → Prop) {adK : Nat → Nat} (h : ∀ i : Nat, i < 28 → (stT i).eval args s none [] s = some (.ref (adK i))) : rX adK A s s.heap :=
  vk_R.of (hts (.stringRef "PeatRailwayLaw" 67 "railway") (by decide +kernel)) (eq_ref (a := .string "PeatRailway$Parser" 70) (h 1 (by decide)) (hs _ (by decide +kernel)))
theorem ent_k (hts : ∀ w ∈ lw_tb2, w.before args s = true) (A : Nat → Prop) : kX A s s.heap := va_Nw.of rfl (hts _ (by decide +kernel))
def pke8 {α : Type} (a0 a1 a2 a3 a4 a5 a6 a7 : α) : Nat → α := fun k => match k with
  | 0 => a0 | 1 => a1 | 2 => a2 | 3 => a3 | 4 => a4 | 5 => a5 | 6 => a6 | _ => a7
def pke4 {α : Type} (a0 a1 a2 a3 : α) : Nat → α := fun k => match k with
  | 0 => a0 | 1 => a1 | 2 => a2 | _ => a3
theorem ent_A {ty : FieldType} (h : (Cond.arrayClass ty).before args s = true) (ho : ∀ C, ty ≠ .object C) (hr : ∀ cA, s.vm.findClass ("[" ++ ty.toString) = some cA → va_RA s cA ty) : ∃ cA, ArrOfT s cA ty ∧ va_RA s cA ty := by
  obtain ⟨c, k, comp, h1, h2, h3⟩ := Cond.arrayClass_spec h
  exact ⟨c, fun n z => ⟨fun k h => (by cases h), k, h2, comp, h3⟩, hr c h1⟩
theorem ent_K (hts : ∀ w ∈ lw_tb2, w.before args s = true) : ∃ (D : va_G) (κ : Nat → ClassId), va_K D vwCl (zTy κ) s := by
  obtain ⟨c0, i0, k0⟩ := u_known (C := RX0) (T := TX0) (N := 3) (n := 3) hts inX0 (hts _ (by decide +kernel))
  obtain ⟨c1, i1, k1⟩ := u_known (C := RX1) (T := TX1) (N := 2) (n := 2) hts inX1 (hts _ (by decide +kernel))
  obtain ⟨c2, i2, k2⟩ := u_known (C := RX2) (T := TX2) (N := 10) (n := 10) hts inX2 (hts _ (by decide +kernel))
  obtain ⟨c3, i3, k3⟩ := u_known (C := RX3) (T := TX3) (N := 2) (n := 2) hts inX3 (hts _ (by decide +kernel))
  obtain ⟨c4, i4, k4⟩ := u_known (C := RX4) (T := TX4) (N := 17) (n := 17) hts inX4 (hts _ (by decide +kernel))
  obtain ⟨c5, i5, k5⟩ := u_known (C := RX5) (T := TX5) (N := 7) (n := 7) hts inX5 (hts _ (by decide +kernel))
  obtain ⟨c6, i6, k6⟩ := u_known (C := RJ0) (T := TJ0) (N := 4) (n := 4) hts inJ0 (hts _ (by decide +kernel))
  obtain ⟨c7, i7, k7⟩ := u_known (C := RJ4) (T := TJ4) (N := 4) (n := 4) hts inJ4 (hts _ (by decide +kernel))
  obtain ⟨a0, r0⟩ := ent_A (ty := .int) (hts _ (by decide +kernel)) (fun _ h => nomatch h) (fun _ h => h)
  obtain ⟨a1, r1⟩ := ent_A (ty := .byte) (hts _ (by decide +kernel)) (fun _ h => nomatch h) (fun _ h => h)
  obtain ⟨a2, r2⟩ := ent_A (ty := .boolean) (hts _ (by decide +kernel)) (fun _ h => nomatch h) (fun _ h => h)
  obtain ⟨comp, a3, k, h1, h2, h3, h4, h5⟩ := Cond.arrayOver_spec (hts (Cond.arrayOver (.object "PeatRailway$State")) (by decide +kernel))
  refine ⟨(pke8 c0 c1 c2 c3 c4 c5 c6 c7, pke8 i0 i1 i2 i3 i4 i5 i6 i7), pke4 a0 a1 a2 a3, fun c q hq => ?_, fun c q hq => ?_⟩
  · match c, hq with
    | 0, hq => cases Option.some.inj hq; exact k0
    | 1, hq => cases Option.some.inj hq; exact k1
    | 2, hq => cases Option.some.inj hq; exact k2
    | 3, hq => cases Option.some.inj hq; exact k3
    | 4, hq => cases Option.some.inj hq; exact k4
    | 5, hq => cases Option.some.inj hq; exact k5
    | 6, hq => cases Option.some.inj hq; exact k6
    | 7, hq => cases Option.some.inj hq; exact k7
    | n + 8, hq => exact absurd (hq.symm.trans (List.getElem?_eq_none (Nat.le_add_left 8 n))) (fun h => nomatch h)
  · match c, hq with
    | 0, hq => cases Option.some.inj hq; exact r0
    | 1, hq => cases Option.some.inj hq; exact r1
    | 2, hq => cases Option.some.inj hq; exact r2
    | 3, hq => cases Option.some.inj hq; exact ⟨fun n z => ⟨fun k h => (by cases h), k, h3, comp, h4⟩, k, comp, h3, h4, h1, h5⟩
    | n + 4, hq => exact absurd (hq.symm.trans (List.getElem?_eq_none (Nat.le_add_left 4 n))) (fun h => nomatch h)
end ENTS
end ENT
