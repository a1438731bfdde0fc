section ENT
/-- the literals' terms and their words -/
def stT (i : Nat) : Term := .string (sOwn.getD i "") (sIdx.getD i 0)
def stV (i : Nat) : Term := .field (stT i) "java/lang/String" "value" "[B"
def stW (i : Nat) : List Cond := [.exactly (stT i) "java/lang/String", .eq (.field (stT i) "java/lang/String" "coder" "B") (.int 0), .arrayOf (stV i) .byte, .eq (.length (stV i)) (.int (Int32.ofNat (sLen.getD i 0)))] ++ (List.range (sLen.getD i 0)).map (fun j => .eq (.elem (stV i) (.int (Int32.ofNat j))) (.int ((sByt.getD i []).getD j 0)))
set_option maxRecDepth 20000 in
theorem stq_0 : ((flatC narrow_1).drop 36).take 105 = stW 0 := by decide +kernel
set_option maxRecDepth 20000 in
theorem stq_1 : ((flatC narrow_1).drop 141).take 11 = stW 1 := by decide +kernel
set_option maxRecDepth 20000 in
theorem stq_2 : ((flatC narrow_1).drop 152).take 9 = stW 2 := by decide +kernel
set_option maxRecDepth 20000 in
theorem stq_3 : ((flatC narrow_1).drop 161).take 8 = stW 3 := by decide +kernel
set_option maxRecDepth 20000 in
theorem stq_4 : ((flatC narrow_1).drop 169).take 9 = stW 4 := by decide +kernel
set_option maxRecDepth 20000 in
theorem stq_5 : ((flatC narrow_1).drop 178).take 9 = stW 5 := by decide +kernel
set_option maxRecDepth 20000 in
theorem stq_6 : ((flatC narrow_1).drop 187).take 8 = stW 6 := by decide +kernel
set_option maxRecDepth 20000 in
theorem stq_7 : ((flatC narrow_1).drop 195).take 10 = stW 7 := by decide +kernel
set_option maxRecDepth 20000 in
theorem stq_8 : ((flatC narrow_1).drop 205).take 10 = stW 8 := by decide +kernel
set_option maxRecDepth 20000 in
theorem stq_9 : ((flatC narrow_1).drop 215).take 28 = stW 9 := by decide +kernel
set_option maxRecDepth 20000 in
theorem stq_10 : ((flatC narrow_1).drop 243).take 18 = stW 10 := by decide +kernel
set_option maxRecDepth 20000 in
theorem stq_11 : ((flatC narrow_1).drop 261).take 25 = stW 11 := by decide +kernel
set_option maxRecDepth 20000 in
theorem stq_12 : ((flatC narrow_1).drop 286).take 17 = stW 12 := by decide +kernel
set_option maxRecDepth 20000 in
theorem stq_13 : ((flatC narrow_1).drop 303).take 17 = stW 13 := by decide +kernel
set_option maxRecDepth 20000 in
theorem stq_14 : ((flatC narrow_1).drop 320).take 22 = stW 14 := by decide +kernel
set_option maxRecDepth 20000 in
theorem stq_15 : ((flatC narrow_1).drop 342).take 37 = stW 15 := by decide +kernel
set_option maxRecDepth 20000 in
theorem stq_16 : ((flatC narrow_1).drop 379).take 24 = stW 16 := by decide +kernel
set_option maxRecDepth 20000 in
theorem stq_17 : ((flatC narrow_1).drop 403).take 27 = stW 17 := by decide +kernel
set_option maxRecDepth 20000 in
theorem stq_18 : ((flatC narrow_1).drop 430).take 33 = stW 18 := by decide +kernel
set_option maxRecDepth 20000 in
theorem stq_19 : ((flatC narrow_1).drop 463).take 23 = stW 19 := by decide +kernel
set_option maxRecDepth 20000 in
theorem stq_20 : ((flatC narrow_1).drop 486).take 19 = stW 20 := by decide +kernel
set_option maxRecDepth 20000 in
theorem stq_21 : ((flatC narrow_1).drop 505).take 22 = stW 21 := by decide +kernel
set_option maxRecDepth 20000 in
theorem stq_22 : ((flatC narrow_1).drop 527).take 16 = stW 22 := by decide +kernel
set_option maxRecDepth 20000 in
theorem stq_23 : ((flatC narrow_1).drop 543).take 32 = stW 23 := by decide +kernel
set_option maxRecDepth 20000 in
theorem stq_24 : ((flatC narrow_1).drop 575).take 30 = stW 24 := by decide +kernel
set_option maxRecDepth 20000 in
theorem stq_25 : ((flatC narrow_1).drop 605).take 16 = stW 25 := by decide +kernel
theorem mem_dt {α : Type} {l w : List α} {a b : Nat} {x : α} (h : (l.drop a).take b = w) (hx : x ∈ w) : x ∈ l := List.mem_of_mem_drop (List.mem_of_mem_take (h ▸ hx))
theorem st_in (i : Nat) (hi : i < 26) {w : Cond} (h : w ∈ stW i) : w ∈ flatC narrow_1 := by
  match i, hi with
  | 0, _ => exact mem_dt stq_0 h
  | 1, _ => exact mem_dt stq_1 h
  | 2, _ => exact mem_dt stq_2 h
  | 3, _ => exact mem_dt stq_3 h
  | 4, _ => exact mem_dt stq_4 h
  | 5, _ => exact mem_dt stq_5 h
  | 6, _ => exact mem_dt stq_6 h
  | 7, _ => exact mem_dt stq_7 h
  | 8, _ => exact mem_dt stq_8 h
  | 9, _ => exact mem_dt stq_9 h
  | 10, _ => exact mem_dt stq_10 h
  | 11, _ => exact mem_dt stq_11 h
  | 12, _ => exact mem_dt stq_12 h
  | 13, _ => exact mem_dt stq_13 h
  | 14, _ => exact mem_dt stq_14 h
  | 15, _ => exact mem_dt stq_15 h
  | 16, _ => exact mem_dt stq_16 h
  | 17, _ => exact mem_dt stq_17 h
  | 18, _ => exact mem_dt stq_18 h
  | 19, _ => exact mem_dt stq_19 h
  | 20, _ => exact mem_dt stq_20 h
  | 21, _ => exact mem_dt stq_21 h
  | 22, _ => exact mem_dt stq_22 h
  | 23, _ => exact mem_dt stq_23 h
  | 24, _ => exact mem_dt stq_24 h
  | 25, _ => exact mem_dt stq_25 h
  | n + 26, hq => exact absurd hq (by omega)
theorem st_el (i : Nat) {j : Nat} (hj : j < sLen.getD i 0) : Cond.eq (.elem (stV i) (.int (Int32.ofNat j))) (.int ((sByt.getD i []).getD j 0)) ∈ stW i := List.mem_append_right _ (List.mem_map.mpr ⟨j, List.mem_range.mpr hj, rfl⟩)
theorem st_len : ∀ i, i < 26 → sLen.getD i 0 < 2 ^ 31 := by decide
/-- the literals are apart -/
theorem st_apart : ∀ i, i < 26 → ∀ j, j < 26 → sLen.getD i 0 = sLen.getD j 0 → (∀ k, k < sLen.getD i 0 → (sByt.getD i []).getD k 0 = (sByt.getD j []).getD k 0) → i = j := by decide +kernel
theorem i32_ofNat {a b : Nat} (ha : a < 2 ^ 31) (hb : b < 2 ^ 31) (h : Int32.ofNat a = Int32.ofNat b) : a = b := by
  have h1 := congrArg Int32.toInt h
  rwa [Int32.toInt_ofNat_of_lt ha, Int32.toInt_ofNat_of_lt hb, Int.ofNat_inj] at h1
theorem fieldEq {o n d : String} {U : State} {H : Heap} {A : Nat → Prop} {v v' : Value} {t : Nat} (h : va_OF o n d v t A U H) (h' : va_OF o n d v' t A U H) : v = v' := by
  obtain ⟨cf, k, i, f, cell, a1, a2, a3, a4, a5, a6⟩ := h
  obtain ⟨cf', k', i', f', cell', b1, b2, b3, b4, b5, b6⟩ := h'
  cases a1.symm.trans b1
  cases a3.symm.trans b3
  exact Option.some.inj (a5.symm.trans b5)
section ENTS
variable {args : Array Value} {s : State}
theorem ent_S (hs : ∀ w ∈ flatC narrow_1, w.before args s = true) (A : Nat → Prop) (hA : ∀ a : Nat, a < s.heap.size → ¬ A a) : ∃ adK adV : Nat → Nat, vk_S 26 sLen sByt adK adV A s s.heap ∧ ∀ i : Nat, i < 26 → (stT i).eval args s none [] s = some (.ref (adK i)) := by
  have h0 : ∀ i : Nat, ∃ q : Nat × Nat, i < 26 → (stT i).eval args s none [] s = some (.ref q.1) ∧ va_O "java/lang/String" q.1 A s s.heap ∧ va_OF "java/lang/String" "coder" "B" (.int 0) q.1 A s s.heap ∧ va_OF "java/lang/String" "value" "[B" (.ref q.2) q.1 A s s.heap ∧ va_T .byte q.2 (sLen.getD i 0) (fun j => .int ((sByt.getD i []).getD j 0)) A s s.heap := by
    intro i
    by_cases hi : i < 26
    · have hw : ∀ {w : Cond}, w ∈ stW i → w.before args s = true := fun h => hs _ (st_in i hi h)
      have w1 := hw (List.mem_append_left _ List.mem_cons_self)
      have w2 := hw (List.mem_append_left _ (List.mem_cons_of_mem _ List.mem_cons_self))
      have w3 := hw (List.mem_append_left _ (List.mem_cons_of_mem _ (List.mem_cons_of_mem _ List.mem_cons_self)))
      have w4 := hw (List.mem_append_left _ (List.mem_cons_of_mem _ (List.mem_cons_of_mem _ (List.mem_cons_of_mem _ List.mem_cons_self))))
      obtain ⟨a, c, cA, kA, q1, q2, q3, q4, q5, q6, -⟩ := Cond.exactly_spec (args := args) (first := s) (o := none) (s := s) (idx := []) (t := stT i) (cls := "java/lang/String") w1
      obtain ⟨t, ht, hT⟩ := va_Tof (f := fun j => .int ((sByt.getD i []).getD j 0)) (A := A) (st_len i hi) w3 (va_eqt w4) (fun j hj => va_eqt (hw (st_el i hj))) hA
      exact ⟨(a, t), fun _ => ⟨q1, ⟨cA, q3, q5, by rw [q6]; exact q2, hA a (Array.getElem?_eq_some_iff.mp q3).1⟩, vk_OFof q1 (va_eqt w2) hA, vk_OFof q1 ht hA, hT⟩⟩
    · exact ⟨(0, 0), fun h => absurd h hi⟩
  obtain ⟨ad, had⟩ := Classical.axiomOfChoice h0
  refine ⟨fun i => (ad i).1, fun i => (ad i).2, ⟨fun i hi => (had i hi).2, fun i j hi hj e => ?_⟩, fun i hi => (had i hi).1⟩
  obtain ⟨-, -, -, v1, t1⟩ := had i hi
  obtain ⟨-, -, -, v2, t2⟩ := had j hj
  have e : (ad i).1 = (ad j).1 := e
  rw [e] at v1
  have ev : (ad i).2 = (ad j).2 := Value.ref.inj (fieldEq v1 v2)
  rw [ev] at t1
  obtain ⟨cl, c1, -, -, c4, c5, c6, -⟩ := t1
  obtain ⟨cl', d1, -, -, d4, d5, d6, -⟩ := t2
  cases c1.symm.trans d1
  have el := i32_ofNat (st_len i hi) (st_len j hj) (c5.symm.trans d5)
  refine st_apart i hi j hj el (fun k hk => ?_)
  exact Value.int.inj (Option.some.inj ((c6 k hk).symm.trans (d6 k (el ▸ hk))))
theorem ent_c (hts : ∀ w ∈ lw_tbl, w.before args s = true) (hs : ∀ w ∈ flatC narrow_1, w.before args s = true) (A : Nat → Prop) (hA : ∀ a : Nat, a < s.heap.size → ¬ A a) : ∃ adK adV : Nat → Nat, cX adK adV A s s.heap := by
  obtain ⟨adK, adV, h1, h2⟩ := ent_S hs A hA
  refine ⟨adK, adV, ?_, ?_, ?_, ?_, h1, fun i hi => vk_R.of ?_ (h2 i hi)⟩
  · exact va_Zof (hts _ (by decide +kernel)) (hts _ (by decide +kernel)) (va_eqt (hs (.eq (.static "java/lang/String" "COMPACT_STRINGS" "Z") (.int 1)) (by decide +kernel))) hA
  · exact vx_Zqof (hts _ (by decide +kernel)) (hts _ (by decide +kernel)) (hs _ (by decide +kernel)) hA
  · exact vx_Zqof (hts _ (by decide +kernel)) (hts _ (by decide +kernel)) (hs _ (by decide +kernel)) hA
  · exact vx_Zqof (hts _ (by decide +kernel)) (hts _ (by decide +kernel)) (hs _ (by decide +kernel)) hA
  · exact hts _ ((show ∀ i, i < 26 → Cond.stringRef (sOwn.getD i "") (sIdx.getD i 0) (sTxt.getD i "") ∈ lw_tbl from by decide +kernel) i hi)
theorem ent_n (hts : ∀ w ∈ lw_tbl, w.before args s = true) (hs : ∀ w ∈ flatC narrow_1, w.before args s = true) (A : Nat → Prop) : nX A s s.heap := by
  refine ⟨fun w hw => ?_, fun q hq => va_Nw.of rfl (hts _ ((show ∀ q ∈ nCs, Cond.castable q.1 q.2 ∈ lw_tbl from by decide +kernel) q hq)), fun q hq => va_Nc.of (hs _ ((show ∀ q ∈ nNs, Cond.not (.castable q.1 q.2) ∈ flatC narrow_1 from by decide +kernel) q hq)), va_AO.of (A := args) (hts _ (by decide +kernel)), fun w hw => ?_⟩
  · have h1 := hts _ ((show ∀ w ∈ nWs, w ∈ lw_tbl from by decide +kernel) w hw)
    obtain ⟨a, i, x, h, rfl⟩ := nWs_nest w hw
    exact va_Nw.of rfl h1
  · have h1 := hts _ ((show ∀ w ∈ nDw, w ∈ lw_tbl from by decide +kernel) w hw)
    obtain ⟨x, rfl⟩ := nDw_d w hw
    exact va_Nw.of rfl h1
def pk7 {α : Type} (a0 a1 a2 a3 a4 a5 a6 : α) : Nat → α := fun k => match k with
  | 0 => a0 | 1 => a1 | 2 => a2 | 3 => a3 | 4 => a4 | 5 => a5 | _ => a6
def pk5 {α : Type} (a0 a1 a2 a3 a4 : α) : Nat → α := fun k => match k with
  | 0 => a0 | 1 => a1 | 2 => a2 | 3 => a3 | _ => a4
theorem ent_A {ty : FieldType} (h : (Cond.arrayClass ty).before args s = true) (ho : ∀ C, ty ≠ .object C) (hr : ∀ cA, s.vm.findClass ("[" ++ ty.toString) = some cA → va_RA s cA ty) : ∃ cA, ArrOfT s cA ty ∧ va_RA s cA ty := by
  obtain ⟨c, k, comp, h1, h2, h3⟩ := Cond.arrayClass_spec h
  exact ⟨c, fun n z => ⟨fun k h => (by cases h), k, h2, comp, h3⟩, hr c h1⟩
theorem ent_K (hts : ∀ w ∈ lw_tbl, w.before args s = true) : ∃ (D : va_G) (κ : Nat → ClassId), va_K D vwCl (zTy κ) s := by
  obtain ⟨c0, i0, k0⟩ := u_known (C := RX0) (T := TX0) (N := 3) (n := 3) hts inX0 (hts _ (by decide +kernel))
  obtain ⟨c1, i1, k1⟩ := u_known (C := RX1) (T := TX1) (N := 2) (n := 2) hts inX1 (hts _ (by decide +kernel))
  obtain ⟨c2, i2, k2⟩ := u_known (C := RX2) (T := TX2) (N := 10) (n := 10) hts inX2 (hts _ (by decide +kernel))
  obtain ⟨c3, i3, k3⟩ := u_known (C := RX3) (T := TX3) (N := 2) (n := 2) hts inX3 (hts _ (by decide +kernel))
  obtain ⟨c4, i4, k4⟩ := u_known (C := RX4) (T := TX4) (N := 17) (n := 17) hts inX4 (hts _ (by decide +kernel))
  obtain ⟨c5, i5, k5⟩ := u_known (C := RX5) (T := TX5) (N := 7) (n := 7) hts inX5 (hts _ (by decide +kernel))
  obtain ⟨c6, i6, k6⟩ := u_known (C := RX6) (T := TX6) (N := 21) (n := 21) hts inX6 (hts _ (by decide +kernel))
  obtain ⟨a0, r0⟩ := ent_A (ty := .int) (hts _ (by decide +kernel)) (fun _ h => nomatch h) (fun _ h => h)
  obtain ⟨a1, r1⟩ := ent_A (ty := .byte) (hts _ (by decide +kernel)) (fun _ h => nomatch h) (fun _ h => h)
  obtain ⟨a2, r2⟩ := ent_A (ty := .boolean) (hts _ (by decide +kernel)) (fun _ h => nomatch h) (fun _ h => h)
  obtain ⟨a4, r4⟩ := ent_A (ty := .long) (hts _ (by decide +kernel)) (fun _ h => nomatch h) (fun _ h => h)
  obtain ⟨comp, a3, k, h1, h2, h3, h4, h5⟩ := Cond.arrayOver_spec (hts (Cond.arrayOver (.object "PeatRailway$State")) (by decide +kernel))
  refine ⟨(pk7 c0 c1 c2 c3 c4 c5 c6, pk7 i0 i1 i2 i3 i4 i5 i6), pk5 a0 a1 a2 a3 a4, fun c q hq => ?_, fun c q hq => ?_⟩
  · match c, hq with
    | 0, hq => cases Option.some.inj hq; exact k0
    | 1, hq => cases Option.some.inj hq; exact k1
    | 2, hq => cases Option.some.inj hq; exact k2
    | 3, hq => cases Option.some.inj hq; exact k3
    | 4, hq => cases Option.some.inj hq; exact k4
    | 5, hq => cases Option.some.inj hq; exact k5
    | 6, hq => cases Option.some.inj hq; exact k6
    | n + 7, hq => exact absurd (hq.symm.trans (List.getElem?_eq_none (Nat.le_add_left 7 n))) (fun h => nomatch h)
  · match c, hq with
    | 0, hq => cases Option.some.inj hq; exact r0
    | 1, hq => cases Option.some.inj hq; exact r1
    | 2, hq => cases Option.some.inj hq; exact r2
    | 3, hq => cases Option.some.inj hq; exact ⟨fun n z => ⟨fun k h => (by cases h), k, h3, comp, h4⟩, k, comp, h3, h4, h1, h5⟩
    | 4, hq => cases Option.some.inj hq; exact r4
    | n + 5, hq => exact absurd (hq.symm.trans (List.getElem?_eq_none (Nat.le_add_left 5 n))) (fun h => nomatch h)
end ENTS
end ENT
