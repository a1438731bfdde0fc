section ENT
theorem st_el (i : Nat) {j : Nat} (hj : j < sLen.getD i 0) : Cond.eq (.elem (stV i) (.int (Int32.ofNat j))) (.int ((sByt.getD i []).getD j 0)) ∈ stW i := List.mem_append_right _ (List.mem_map.mpr ⟨j, List.mem_range.mpr hj, rfl⟩)
theorem st_len : ∀ i, i < 28 → sLen.getD i 0 < 2 ^ 31 := by decide
/-- the literals are apart -/
theorem st_apart : ∀ i, i < 28 → ∀ j, j < 28 → sLen.getD i 0 = sLen.getD j 0 → (∀ k, k < sLen.getD i 0 → (sByt.getD i []).getD k 0 = (sByt.getD j []).getD k 0) → i = j := by decide +kernel
theorem i32_ofNat {a b : Nat} (ha : a < 2 ^ 31) (hb : b < 2 ^ 31) (h : Int32.ofNat a = Int32.ofNat b) : a = b := by
  have h1 := congrArg Int32.toInt h
  rwa [Int32.toInt_ofNat_of_lt ha, Int32.toInt_ofNat_of_lt hb, Int.ofNat_inj] at h1
theorem fieldEq {o n d : String} {U : State} {H : Heap} {A : Nat → Prop} {v v' : Value} {t : Nat} (h : va_OF o n d v t A U H) (h' : va_OF o n d v' t A U H) : v = v' := by
  obtain ⟨cf, k, i, f, cell, a1, a2, a3, a4, a5, a6⟩ := h
  obtain ⟨cf', k', i', f', cell', b1, b2, b3, b4, b5, b6⟩ := h'
  cases a1.symm.trans b1
  cases a3.symm.trans b3
  exact Option.some.inj (a5.symm.trans b5)
section ENTS
variable {args : Array Value} {s : State}
theorem ent_S (hs : ∀ w ∈ flatC narrow_1, w.before args s = true) (A : Nat → Prop) (hA : ∀ a : Nat, a < s.heap.size → ¬ A a) : ∃ adK adV : Nat → Nat, vk_S 28 sLen sByt adK adV A s s.heap ∧ ∀ i : Nat, i < 28 → (stT i).eval args s none [] s = some (.ref (adK i)) := by
  have h0 : ∀ i : Nat, ∃ q : Nat × Nat, i < 28 → (stT i).eval args s none [] s = some (.ref q.1) ∧ va_O "java/lang/String" q.1 A s s.heap ∧ va_OF "java/lang/String" "coder" "B" (.int 0) q.1 A s s.heap ∧ va_OF "java/lang/String" "value" "[B" (.ref q.2) q.1 A s s.heap ∧ va_T .byte q.2 (sLen.getD i 0) (fun j => .int ((sByt.getD i []).getD j 0)) A s s.heap := by
    intro i
    by_cases hi : i < 28
    · have hw : ∀ {w : Cond}, w ∈ stW i → w.before args s = true := fun h => hs _ (st_in i hi h)
      have w1 := hw (List.mem_append_left _ List.mem_cons_self)
      have w2 := hw (List.mem_append_left _ (List.mem_cons_of_mem _ List.mem_cons_self))
      have w3 := hw (List.mem_append_left _ (List.mem_cons_of_mem _ (List.mem_cons_of_mem _ List.mem_cons_self)))
      have w4 := hw (List.mem_append_left _ (List.mem_cons_of_mem _ (List.mem_cons_of_mem _ (List.mem_cons_of_mem _ List.mem_cons_self))))
      obtain ⟨a, c, cA, kA, q1, q2, q3, q4, q5, q6, -⟩ := Cond.exactly_spec (args := args) (first := s) (o := none) (s := s) (idx := []) (t := stT i) (cls := "java/lang/String") w1
      obtain ⟨t, ht, hT⟩ := va_Tof (f := fun j => .int ((sByt.getD i []).getD j 0)) (A := A) (st_len i hi) w3 (va_eqt w4) (fun j hj => va_eqt (hw (st_el i hj))) hA
      exact ⟨(a, t), fun _ => ⟨q1, ⟨cA, q3, q5, by rw [q6]; exact q2, hA a (Array.getElem?_eq_some_iff.mp q3).1⟩, vk_OFof q1 (va_eqt w2) hA, vk_OFof q1 ht hA, hT⟩⟩
    · exact ⟨(0, 0), fun h => absurd h hi⟩
  obtain ⟨ad, had⟩ := Classical.axiomOfChoice h0
  refine ⟨fun i => (ad i).1, fun i => (ad i).2, ⟨fun i hi => (had i hi).2, fun i j hi hj e => ?_⟩, fun i hi => (had i hi).1⟩
  obtain ⟨-, -, -, v1, t1⟩ := had i hi
  obtain ⟨-, -, -, v2, t2⟩ := had j hj
  have e : (ad i).1 = (ad j).1 := e
  rw [e] at v1
  have ev : (ad i).2 = (ad j).2 := Value.ref.inj (fieldEq v1 v2)
  rw [ev] at t1
  obtain ⟨cl, c1, -, -, c4, c5, c6, -⟩ := t1
  obtain ⟨cl', d1, -, -, d4, d5, d6, -⟩ := t2
  cases c1.symm.trans d1
  have el := i32_ofNat (st_len i hi) (st_len j hj) (c5.symm.trans d5)
  refine st_apart i hi j hj el (fun k hk => ?_)
  exact Value.int.inj (Option.some.inj ((c6 k hk).symm.trans (d6 k (el ▸ hk))))
theorem ent_c (hts : ∀ w ∈ lw_tb2, w.before args s = true) (hs : ∀ w ∈ flatC narrow_1, w.before args s = true) (A : Nat → Prop) (hA : ∀ a : Nat, a < s.heap.size → ¬ A a) : ∃ adK adV : Nat → Nat, cX adK adV A s s.heap ∧ ∀ i : Nat, i < 28 → (stT i).eval args s none [] s = some (.ref (adK i)) := by
  obtain ⟨adK, adV, h1, h2⟩ := ent_S hs A hA
  refine ⟨adK, adV, ⟨?_, ?_, ?_, ?_, h1, fun i hi => vk_R.of ?_ (h2 i hi)⟩, h2⟩
  · exact va_Zof (hts _ (by decide +kernel)) (hts _ (by decide +kernel)) (va_eqt (hs (.eq (.static "java/lang/String" "COMPACT_STRINGS" "Z") (.int 1)) (by decide +kernel))) hA
  · exact vx_Zqof (hts _ (by decide +kernel)) (hts _ (by decide +kernel)) (hs _ (by decide +kernel)) hA
  · exact vx_Zqof (hts _ (by decide +kernel)) (hts _ (by decide +kernel)) (hs _ (by decide +kernel)) hA
  · exact vx_Zqof (hts _ (by decide +kernel)) (hts _ (by decide +kernel)) (hs _ (by decide +kernel)) hA
  · exact hts _ ((show ∀ i, i < 28 → Cond.stringRef (sOwn.getD i "") (sIdx.getD i 0) (sTxt.getD i "") ∈ lw_tb2 from by decide +kernel) i hi)
theorem ent_n (hts : ∀ w ∈ lw_tb2, w.before args s = true) (hs : ∀ w ∈ flatC narrow_1, w.before args s = true) (A : Nat → Prop) : nX A s s.heap := by
  refine ⟨fun w hw => ?_, fun q hq => va_Nw.of rfl (hts _ ((show ∀ q ∈ nCs, Cond.castable q.1 q.2 ∈ lw_tb2 from by decide +kernel) q hq)), fun q hq => va_Nc.of (hs _ ((show ∀ q ∈ nNs, Cond.not (.castable q.1 q.2) ∈ flatC narrow_1 from by decide +kernel) q hq)), va_AO.of (A := args) (hts _ (by decide +kernel)), fun w hw => ?_⟩
  · have h1 := hts _ ((show ∀ w ∈ nWs, w ∈ lw_tb2 from by decide +kernel) w hw)
    obtain ⟨a, i, x, h, rfl⟩ := nWs_nest w hw
    exact va_Nw.of rfl h1
  · have h1 := hts _ ((show ∀ w ∈ nDw, w ∈ lw_tb2 from by decide +kernel) w hw)
    obtain ⟨x, rfl⟩ := nDw_d w hw
    exact va_Nw.of rfl h1
end ENTS
end ENT
