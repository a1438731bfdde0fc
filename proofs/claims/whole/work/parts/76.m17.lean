section M17
set_option maxRecDepth 100000 in
set_option maxHeartbeats 4000000 in
theorem mX6_meanDepth (l : Launch) (D : va_G) (κ : Nat → ClassId) (Ad : Nat → Nat) (eo : Int32) (ip : Nat → Int32) (v nw aw od sv ot : Nat → Nat) (M : Nat) (hB : Bd M nw) (h10 : nw 1 ≤ 10) (h5 : nw 2 ≤ 5) : zM l yX6_meanDepth wsX6_meanDepth { frames := 2, cells := 0, slots := 0, locals := 43 } D (zTy κ) [.ref (Ad 0)] (MW κ Ad eo ip v nw aw od sv ot) (S := Unit) (fun _ => some (.double (mdF nw))) (fun _ => True) (fun _ => MW κ Ad eo ip (upN v 1 0) nw aw od sv ot) 0 0 := by
  refine zM_of (cc := cX6_meanDepth) (maxL := 1) (rt := (some .double)) [(0, .ref (Ad 0))] (by decide +kernel) rfl (Nat.le_of_ble_eq_true rfl) rfl ?_
  intro p e s m args below meth c A C hr hk hnm
  have C : zC p s m args c cX6_meanDepth 1 wsX6_meanDepth RX6 D (zTy κ) A := C
  have hin : ∀ w ∈ wsX60, w ∈ wsX6_meanDepth := fun w h => List.mem_cons_of_mem _ (List.mem_append_right _ h)
  have k51 : Cond.fieldLink RX6 51 "PeatRailwayModel" "thrown" "I" ∈ wsX6_meanDepth := by decide +kernel
  have k13 : Cond.fieldLink RX6 13 "PeatRailwayModel" "now" "[I" ∈ wsX6_meanDepth := by decide +kernel
  obtain ⟨hM1, hM2, ht0, hnb, hnt, hj, hp⟩ := id hB
  refine z_aload_n C dX6_meanDepth_0 0 rfl ?_
  refine z_iconst (v := nI 0) C dX6_meanDepth_1 (by decide) ?_
  refine zm_put_thrown C hin k51 dX6_meanDepth_2 ?_
  refine z_aload_n C dX6_meanDepth_5 0 rfl ?_
  refine zm_get_now C hin k13 dX6_meanDepth_6 ?_
  refine z_iconst (v := nI 1) C dX6_meanDepth_9 (by decide) ?_
  refine zm_ald_now C (by omega) dX6_meanDepth_10 ?_
  refine zn_if_ne C 16 dX6_meanDepth_11 (by decide) (by omega) (fun h1 => ?_) (fun h2 => ?_)
  · refine z_aload_n C dX6_meanDepth_16 0 rfl ?_
    refine z_iconst (v := nI 1) C dX6_meanDepth_17 (by decide) ?_
    refine zm_call C (mX6_ofAllBlocks l D κ Ad _ _ _ _ _ _ _ _ M 1 hB (by decide)) gX6_meanDepth_X6_ofAllBlocks rfl rfl rfl hdX6_ofAllBlocks ⟨Nat.le_of_ble_eq_true rfl, Nat.le_of_ble_eq_true rfl⟩ rfl (Nat.le_of_ble_eq_true rfl) dX6_meanDepth_18 ⟨Nat.zero_le _, Nat.zero_le _⟩ ?_
    refine z_i2d C dX6_meanDepth_21 ?_
    refine z_aload_n C dX6_meanDepth_22 0 rfl ?_
    refine zm_get_now C hin k13 dX6_meanDepth_23 ?_
    refine z_iconst (v := nI 1) C dX6_meanDepth_26 (by decide) ?_
    refine zm_ald_now C (by omega) dX6_meanDepth_27 ?_
    refine z_i2d C dX6_meanDepth_28 ?_
    refine z_ddiv C dX6_meanDepth_29 (nv64 (ddiv_nn (by omega) (by omega))) ?_
    exact z_dret C hr hk () (congrArg (fun n => some (Value.double n)) (if_neg (by omega))) trivial (List.Perm.of_eq rfl) dX6_meanDepth_30 (Nat.le_refl _) (Nat.le_refl _)
  · refine z_dconst0 C dX6_meanDepth_14 ?_
    exact z_dret C hr hk () (congrArg (fun n => some (Value.double n)) (if_pos (by omega))) trivial (List.Perm.of_eq rfl) dX6_meanDepth_15 (Nat.le_refl _) (Nat.le_refl _)
theorem hdX6_meanDepth : yX6_meanDepth.cls = RX6 ∧ yX6_meanDepth.cls ≠ "java/lang/invoke/MethodHandle" ∧ yX6_meanDepth.cls ≠ "java/lang/invoke/VarHandle" ∧ (parseMethodDescriptor yX6_meanDepth.desc).map (fun d => d.parameters.length) = some 0 := by decide +kernel
set_option maxRecDepth 100000 in
set_option maxHeartbeats 4000000 in
theorem mX6_waitShare (l : Launch) (D : va_G) (κ : Nat → ClassId) (Ad : Nat → Nat) (eo : Int32) (ip : Nat → Int32) (v nw aw od sv ot : Nat → Nat) (M : Nat) (hB : Bd M nw) (h10 : nw 1 ≤ 10) (h5 : nw 2 ≤ 5) (h0 : nw 0 ≤ 9999) : zM l yX6_waitShare wsX6_waitShare { frames := 2, cells := 0, slots := 0, locals := 43 } D (zTy κ) [.ref (Ad 0)] (MW κ Ad eo ip v nw aw od sv ot) (S := Unit) (fun _ => some (.float (wsF nw))) (fun _ => True) (fun _ => MW κ Ad eo ip (upN v 1 0) nw aw od sv ot) 0 0 := by
  refine zM_of (cc := cX6_waitShare) (maxL := 2) (rt := (some .float)) [(0, .ref (Ad 0))] (by decide +kernel) rfl (Nat.le_of_ble_eq_true rfl) rfl ?_
  intro p e s m args below meth c A C hr hk hnm
  have C : zC p s m args c cX6_waitShare 2 wsX6_waitShare RX6 D (zTy κ) A := C
  have hin : ∀ w ∈ wsX60, w ∈ wsX6_waitShare := fun w h => List.mem_cons_of_mem _ (List.mem_append_right _ h)
  have k51 : Cond.fieldLink RX6 51 "PeatRailwayModel" "thrown" "I" ∈ wsX6_waitShare := by decide +kernel
  have k13 : Cond.fieldLink RX6 13 "PeatRailwayModel" "now" "[I" ∈ wsX6_waitShare := by decide +kernel
  obtain ⟨hM1, hM2, ht0, hnb, hnt, hj, hp⟩ := id hB
  have hch : nw 0 * nw 2 ≤ 9999 * 5 := Nat.mul_le_mul h0 h5
  refine z_aload_n C dX6_waitShare_0 0 rfl ?_
  refine z_iconst (v := nI 0) C dX6_waitShare_1 (by decide) ?_
  refine zm_put_thrown C hin k51 dX6_waitShare_2 ?_
  refine z_aload_n C dX6_waitShare_5 0 rfl ?_
  refine zm_get_now C hin k13 dX6_waitShare_6 ?_
  refine z_iconst (v := nI 0) C dX6_waitShare_9 (by decide) ?_
  refine zm_ald_now C (by omega) dX6_waitShare_10 ?_
  refine z_aload_n C dX6_waitShare_11 0 rfl ?_
  refine zm_get_now C hin k13 dX6_waitShare_12 ?_
  refine z_iconst (v := nI 2) C dX6_waitShare_15 (by decide) ?_
  refine zm_ald_now C (by omega) dX6_waitShare_16 ?_
  refine zn_imul C dX6_waitShare_17 ?_
  refine z_istore_n C [(1, .int (nI ((nw 0) * (nw 2)))), (0, .ref (Ad 0))] dX6_waitShare_18 (by decide) rfl ?_
  refine z_iload_n C dX6_waitShare_19 0 rfl ?_
  refine zn_if_ne C 25 dX6_waitShare_20 (by decide) (by omega) (fun h1 => ?_) (fun h2 => ?_)
  · refine z_aload_n C dX6_waitShare_25 1 rfl ?_
    refine z_iconst (v := nI 4) C dX6_waitShare_26 (by decide) ?_
    refine zm_call C (mX6_ofAllTrains l D κ Ad _ _ _ _ _ _ _ _ M 4 hB (by decide)) gX6_waitShare_X6_ofAllTrains rfl rfl rfl hdX6_ofAllTrains ⟨Nat.le_of_ble_eq_true rfl, Nat.le_of_ble_eq_true rfl⟩ rfl (Nat.le_of_ble_eq_true rfl) dX6_waitShare_27 ⟨Nat.zero_le _, Nat.zero_le _⟩ ?_
    refine z_i2f C dX6_waitShare_30 ?_
    refine z_iload_n C dX6_waitShare_31 0 rfl ?_
    refine z_i2f C dX6_waitShare_32 ?_
    refine z_fdiv C dX6_waitShare_33 (nv32 (fdiv_nn (by omega) (by omega))) ?_
    exact z_fret C hr hk () (congrArg (fun n => some (Value.float n)) (if_neg (by omega))) trivial (List.Perm.of_eq rfl) dX6_waitShare_34 (Nat.le_refl _) (Nat.le_refl _)
  · refine z_fconst0 C dX6_waitShare_23 ?_
    exact z_fret C hr hk () (congrArg (fun n => some (Value.float n)) (if_pos (by omega))) trivial (List.Perm.of_eq rfl) dX6_waitShare_24 (Nat.le_refl _) (Nat.le_refl _)
theorem hdX6_waitShare : yX6_waitShare.cls = RX6 ∧ yX6_waitShare.cls ≠ "java/lang/invoke/MethodHandle" ∧ yX6_waitShare.cls ≠ "java/lang/invoke/VarHandle" ∧ (parseMethodDescriptor yX6_waitShare.desc).map (fun d => d.parameters.length) = some 0 := by decide +kernel
def kyU (k : Nat) : Nat → Nat := fun j => if j < k then kyF j else 0
theorem kyU_s (k : Nat) : upd (nF (kyU k)) k (nI (kyF k)) = nF (kyU (k + 1)) := by
  funext j
  show (if j = k then nI (kyF k) else nI (if j < k then kyF j else 0)) = nI (if j < k + 1 then kyF j else 0)
  by_cases h : j = k
  · subst h
    rw [if_pos rfl, if_pos (by omega)]
  · rw [if_neg h]
    by_cases q : j < k
    · rw [if_pos q, if_pos (by omega)]
    · rw [if_neg q, if_neg (by omega)]
section M17R
variable {p : Program} {l : Launch} {e : Env} {R : Room} {s : State} {m : MethodId} {args : Array Value} {below : List Frame} {meth : Method} {c : Code} {cc : ByteArray} {nL : Nat} {Ts : List Cond} {own : String} {D : va_G} {tys : List (ClassId × FieldType)} {A : Nat → Prop} {cells slots : Nat} {Q : State → Prop} {ws : va_W} {lv : List (Nat × Value)} {pc : Nat} {st : List Value}
theorem z_newaB (C : zC p s m args c cc nL Ts own D tys A) {atype : ArrayType} (harr : Cond.arrayClass (newarray.typeOf atype) ∈ Ts) {ty : FieldType} (hty : newarray.typeOf atype = ty) (t0 : Nat) {cA0 : ClassId} (ht : tys[t0]? = some (cA0, ty)) (hu : ∀ (U : State) (c1 c2 : ClassId), va_RA U c1 ty → va_RA U c2 ty → c1 = c2) {N : Nat} {a0 : vp_A} (ha : ∀ cA : ClassId, vp_cell cA a0 = arrV cA N (fun _ => defaultValue ty)) (hN : N < 60000) (hb8 : componentBytes ty ≤ 8) (hcells : cells + 1 ≤ R.cells) (hslots : slots + N ≤ R.slots) (hdg : decode cc pc = .ok (.newarray atype, 2))
    (k : ∀ q : Nat, zW p l e R s m args below meth c nL D A (cells + 1) (slots + N) Q (ws ++ [(q, .inl (cA0, a0))]) lv (pc + 2) (.ref q :: st)) : zW p l e R s m args below meth c nL D A cells slots Q ws lv pc (.int (nI N) :: st) := by
  intro H locs ls hP hD hS hl
  obtain ⟨hx, hb, hml, hown, hts, hK, hA⟩ := C
  refine va_newa hx hb (hts _ harr) hty hK hP hD hS hA ha (fun q => absurd ((zq_lt (by omega) (by decide : 0 < 2147483648)).mp q) (Nat.not_lt_zero _)) (nI_clamp (by omega)) (Nat.le_trans (Nat.mul_le_mul (Nat.le_of_lt hN) hb8) (by decide)) hcells hslots hdg (fun q cA H1 hK1 hP1 hD1 hS1 => ?_)
  have e1 := (hK1.2 tys.length (cA, ty) (by rw [List.getElem?_append_right (Nat.le_refl _), Nat.sub_self]; rfl)).2
  have e2 := (hK.2 t0 (cA0, ty) ht).2
  have e3 := hu s cA cA0 e1 e2
  subst e3
  exact k q H1 locs ls hP1 hD1 hS1 hl
theorem hu_long : ∀ (U : State) (c1 c2 : ClassId), va_RA U c1 .long → va_RA U c2 .long → c1 = c2 := fun U c1 c2 h1 h2 => Option.some.inj ((show _ = some c1 from h1).symm.trans (show _ = some c2 from h2))
end M17R
set_option maxRecDepth 100000 in
set_option maxHeartbeats 8000000 in
theorem mX6_init (l : Launch) (D : va_G) (κ : Nat → ClassId) (a : Nat) : zM l yX6_init wsX6_init { frames := 7, cells := 7, slots := 2816, locals := 154 } D (zTy κ) [.ref a] [(a, .inr (6, [.null, .int (nI 0), .null, .null, .null, .int (nI 0), .null, .int (nI 0), .null, .int (nI 0), .null, .int (nI 0), .int (nI 0), .int (nI 0), .int (nI 0), .int (nI 0), .int (nI 0), .int (nI 0), .int (nI 0), .int (nI 0), .int (nI 0)]))] (S := Nat → Nat) (fun _ => none) (fun Ad => Ad 0 = a) (fun Ad => MW κ Ad (-1) (fun _ => 0) (fun _ => 0) sg0 (fun _ => 0) (fun _ => 0) (fun _ => 0) (fun _ => 0)) 7 2816 := by
  refine zM_of (cc := cX6_init) (maxL := 2) (rt := none) [(0, .ref a)] (by decide +kernel) rfl (Nat.le_of_ble_eq_true rfl) rfl ?_
  intro p e s m args below meth c A C hr hk hnm
  have C : zC p s m args c cX6_init 2 wsX6_init RX6 D (zTy κ) A := C
  have hin : ∀ w ∈ wsX60, w ∈ wsX6_init := fun w h => List.mem_cons_of_mem _ (List.mem_append_right _ h)
  refine z_aload_n C dX6_init_0 0 rfl ?_
  refine z_oinit C (show Cond.methodLink RX6 1 objectInit ∈ wsX6_init from by decide +kernel) (by decide +kernel) (List.mem_cons_of_mem _ (List.mem_append_left _ (List.mem_append_left _ (List.mem_of_getElem? (i := 2) rfl)))) ⟨(Nat.le_of_ble_eq_true rfl), (Nat.le_of_ble_eq_true rfl)⟩ (Nat.le_of_ble_eq_true rfl) dX6_init_1 ?_
  refine z_aload_n C dX6_init_4 0 rfl ?_
  refine z_bipush (v := nI 56) C dX6_init_5 (by decide) ?_
  refine z_newa C (ty := .int) (by decide +kernel) rfl 0 rfl hu_int (N := 56) (a0 := (56, .inl (nF (kyU 0)))) (fun _ => rfl) (by decide) (by decide) (Nat.le_of_ble_eq_true rfl) (Nat.le_of_ble_eq_true rfl) dX6_init_7 (fun q1 => ?_)
  refine z_dup C dX6_init_9 rfl ?_
  refine z_iconst (v := nI 0) C dX6_init_10 (by decide) ?_
  refine z_bipush (v := nI 114) C dX6_init_11 (by decide) ?_
  refine z_iast C 1 0 rfl rfl (i := 0) (by decide) (by decide) dX6_init_13 [(a, .inr (6, [.null, .int (nI 0), .null, .null, .null, .int (nI 0), .null, .int (nI 0), .null, .int (nI 0), .null, .int (nI 0), .int (nI 0), .int (nI 0), .int (nI 0), .int (nI 0), .int (nI 0), .int (nI 0), .int (nI 0), .int (nI 0), .int (nI 0)])), (q1, .inl (κ 0, 56, .inl (nF (kyU 1))))] (congrArg (fun f => ([(a, .inr (6, [.null, .int (nI 0), .null, .null, .null, .int (nI 0), .null, .int (nI 0), .null, .int (nI 0), .null, .int (nI 0), .int (nI 0), .int (nI 0), .int (nI 0), .int (nI 0), .int (nI 0), .int (nI 0), .int (nI 0), .int (nI 0), .int (nI 0)])), (q1, .inl (κ 0, 56, .inl f))] : va_W)) (kyU_s 0)) ?_
  refine z_dup C dX6_init_14 rfl ?_
  refine z_iconst (v := nI 1) C dX6_init_15 (by decide) ?_
  refine z_bipush (v := nI 97) C dX6_init_16 (by decide) ?_
  refine z_iast C 1 0 rfl rfl (i := 1) (by decide) (by decide) dX6_init_18 [(a, .inr (6, [.null, .int (nI 0), .null, .null, .null, .int (nI 0), .null, .int (nI 0), .null, .int (nI 0), .null, .int (nI 0), .int (nI 0), .int (nI 0), .int (nI 0), .int (nI 0), .int (nI 0), .int (nI 0), .int (nI 0), .int (nI 0), .int (nI 0)])), (q1, .inl (κ 0, 56, .inl (nF (kyU 2))))] (congrArg (fun f => ([(a, .inr (6, [.null, .int (nI 0), .null, .null, .null, .int (nI 0), .null, .int (nI 0), .null, .int (nI 0), .null, .int (nI 0), .int (nI 0), .int (nI 0), .int (nI 0), .int (nI 0), .int (nI 0), .int (nI 0), .int (nI 0), .int (nI 0), .int (nI 0)])), (q1, .inl (κ 0, 56, .inl f))] : va_W)) (kyU_s 1)) ?_
  refine z_dup C dX6_init_19 rfl ?_
  refine z_iconst (v := nI 2) C dX6_init_20 (by decide) ?_
  refine z_bipush (v := nI 105) C dX6_init_21 (by decide) ?_
  refine z_iast C 1 0 rfl rfl (i := 2) (by decide) (by decide) dX6_init_23 [(a, .inr (6, [.null, .int (nI 0), .null, .null, .null, .int (nI 0), .null, .int (nI 0), .null, .int (nI 0), .null, .int (nI 0), .int (nI 0), .int (nI 0), .int (nI 0), .int (nI 0), .int (nI 0), .int (nI 0), .int (nI 0), .int (nI 0), .int (nI 0)])), (q1, .inl (κ 0, 56, .inl (nF (kyU 3))))] (congrArg (fun f => ([(a, .inr (6, [.null, .int (nI 0), .null, .null, .null, .int (nI 0), .null, .int (nI 0), .null, .int (nI 0), .null, .int (nI 0), .int (nI 0), .int (nI 0), .int (nI 0), .int (nI 0), .int (nI 0), .int (nI 0), .int (nI 0), .int (nI 0), .int (nI 0)])), (q1, .inl (κ 0, 56, .inl f))] : va_W)) (kyU_s 2)) ?_
  refine z_dup C dX6_init_24 rfl ?_
  refine z_iconst (v := nI 3) C dX6_init_25 (by decide) ?_
  refine z_bipush (v := nI 108) C dX6_init_26 (by decide) ?_
  refine z_iast C 1 0 rfl rfl (i := 3) (by decide) (by decide) dX6_init_28 [(a, .inr (6, [.null, .int (nI 0), .null, .null, .null, .int (nI 0), .null, .int (nI 0), .null, .int (nI 0), .null, .int (nI 0), .int (nI 0), .int (nI 0), .int (nI 0), .int (nI 0), .int (nI 0), .int (nI 0), .int (nI 0), .int (nI 0), .int (nI 0)])), (q1, .inl (κ 0, 56, .inl (nF (kyU 4))))] (congrArg (fun f => ([(a, .inr (6, [.null, .int (nI 0), .null, .null, .null, .int (nI 0), .null, .int (nI 0), .null, .int (nI 0), .null, .int (nI 0), .int (nI 0), .int (nI 0), .int (nI 0), .int (nI 0), .int (nI 0), .int (nI 0), .int (nI 0), .int (nI 0), .int (nI 0)])), (q1, .inl (κ 0, 56, .inl f))] : va_W)) (kyU_s 3)) ?_
  refine z_dup C dX6_init_29 rfl ?_
  refine z_iconst (v := nI 4) C dX6_init_30 (by decide) ?_
  refine z_bipush (v := nI 119) C dX6_init_31 (by decide) ?_
  refine z_iast C 1 0 rfl rfl (i := 4) (by decide) (by decide) dX6_init_33 [(a, .inr (6, [.null, .int (nI 0), .null, .null, .null, .int (nI 0), .null, .int (nI 0), .null, .int (nI 0), .null, .int (nI 0), .int (nI 0), .int (nI 0), .int (nI 0), .int (nI 0), .int (nI 0), .int (nI 0), .int (nI 0), .int (nI 0), .int (nI 0)])), (q1, .inl (κ 0, 56, .inl (nF (kyU 5))))] (congrArg (fun f => ([(a, .inr (6, [.null, .int (nI 0), .null, .null, .null, .int (nI 0), .null, .int (nI 0), .null, .int (nI 0), .null, .int (nI 0), .int (nI 0), .int (nI 0), .int (nI 0), .int (nI 0), .int (nI 0), .int (nI 0), .int (nI 0), .int (nI 0), .int (nI 0)])), (q1, .inl (κ 0, 56, .inl f))] : va_W)) (kyU_s 4)) ?_
  refine z_dup C dX6_init_34 rfl ?_
  refine z_iconst (v := nI 5) C dX6_init_35 (by decide) ?_
  refine z_bipush (v := nI 97) C dX6_init_36 (by decide) ?_
  refine z_iast C 1 0 rfl rfl (i := 5) (by decide) (by decide) dX6_init_38 [(a, .inr (6, [.null, .int (nI 0), .null, .null, .null, .int (nI 0), .null, .int (nI 0), .null, .int (nI 0), .null, .int (nI 0), .int (nI 0), .int (nI 0), .int (nI 0), .int (nI 0), .int (nI 0), .int (nI 0), .int (nI 0), .int (nI 0), .int (nI 0)])), (q1, .inl (κ 0, 56, .inl (nF (kyU 6))))] (congrArg (fun f => ([(a, .inr (6, [.null, .int (nI 0), .null, .null, .null, .int (nI 0), .null, .int (nI 0), .null, .int (nI 0), .null, .int (nI 0), .int (nI 0), .int (nI 0), .int (nI 0), .int (nI 0), .int (nI 0), .int (nI 0), .int (nI 0), .int (nI 0), .int (nI 0)])), (q1, .inl (κ 0, 56, .inl f))] : va_W)) (kyU_s 5)) ?_
  refine z_dup C dX6_init_39 rfl ?_
  refine z_bipush (v := nI 6) C dX6_init_40 (by decide) ?_
  refine z_bipush (v := nI 121) C dX6_init_42 (by decide) ?_
  refine z_iast C 1 0 rfl rfl (i := 6) (by decide) (by decide) dX6_init_44 [(a, .inr (6, [.null, .int (nI 0), .null, .null, .null, .int (nI 0), .null, .int (nI 0), .null, .int (nI 0), .null, .int (nI 0), .int (nI 0), .int (nI 0), .int (nI 0), .int (nI 0), .int (nI 0), .int (nI 0), .int (nI 0), .int (nI 0), .int (nI 0)])), (q1, .inl (κ 0, 56, .inl (nF (kyU 7))))] (congrArg (fun f => ([(a, .inr (6, [.null, .int (nI 0), .null, .null, .null, .int (nI 0), .null, .int (nI 0), .null, .int (nI 0), .null, .int (nI 0), .int (nI 0), .int (nI 0), .int (nI 0), .int (nI 0), .int (nI 0), .int (nI 0), .int (nI 0), .int (nI 0), .int (nI 0)])), (q1, .inl (κ 0, 56, .inl f))] : va_W)) (kyU_s 6)) ?_
  refine z_dup C dX6_init_45 rfl ?_
  refine z_bipush (v := nI 7) C dX6_init_46 (by decide) ?_
  refine z_bipush (v := nI 98) C dX6_init_48 (by decide) ?_
  refine z_iast C 1 0 rfl rfl (i := 7) (by decide) (by decide) dX6_init_50 [(a, .inr (6, [.null, .int (nI 0), .null, .null, .null, .int (nI 0), .null, .int (nI 0), .null, .int (nI 0), .null, .int (nI 0), .int (nI 0), .int (nI 0), .int (nI 0), .int (nI 0), .int (nI 0), .int (nI 0), .int (nI 0), .int (nI 0), .int (nI 0)])), (q1, .inl (κ 0, 56, .inl (nF (kyU 8))))] (congrArg (fun f => ([(a, .inr (6, [.null, .int (nI 0), .null, .null, .null, .int (nI 0), .null, .int (nI 0), .null, .int (nI 0), .null, .int (nI 0), .int (nI 0), .int (nI 0), .int (nI 0), .int (nI 0), .int (nI 0), .int (nI 0), .int (nI 0), .int (nI 0), .int (nI 0)])), (q1, .inl (κ 0, 56, .inl f))] : va_W)) (kyU_s 7)) ?_
  refine z_dup C dX6_init_51 rfl ?_
  refine z_bipush (v := nI 8) C dX6_init_52 (by decide) ?_
  refine z_bipush (v := nI 108) C dX6_init_54 (by decide) ?_
  refine z_iast C 1 0 rfl rfl (i := 8) (by decide) (by decide) dX6_init_56 [(a, .inr (6, [.null, .int (nI 0), .null, .null, .null, .int (nI 0), .null, .int (nI 0), .null, .int (nI 0), .null, .int (nI 0), .int (nI 0), .int (nI 0), .int (nI 0), .int (nI 0), .int (nI 0), .int (nI 0), .int (nI 0), .int (nI 0), .int (nI 0)])), (q1, .inl (κ 0, 56, .inl (nF (kyU 9))))] (congrArg (fun f => ([(a, .inr (6, [.null, .int (nI 0), .null, .null, .null, .int (nI 0), .null, .int (nI 0), .null, .int (nI 0), .null, .int (nI 0), .int (nI 0), .int (nI 0), .int (nI 0), .int (nI 0), .int (nI 0), .int (nI 0), .int (nI 0), .int (nI 0), .int (nI 0)])), (q1, .inl (κ 0, 56, .inl f))] : va_W)) (kyU_s 8)) ?_
  refine z_dup C dX6_init_57 rfl ?_
  refine z_bipush (v := nI 9) C dX6_init_58 (by decide) ?_
  refine z_bipush (v := nI 111) C dX6_init_60 (by decide) ?_
  refine z_iast C 1 0 rfl rfl (i := 9) (by decide) (by decide) dX6_init_62 [(a, .inr (6, [.null, .int (nI 0), .null, .null, .null, .int (nI 0), .null, .int (nI 0), .null, .int (nI 0), .null, .int (nI 0), .int (nI 0), .int (nI 0), .int (nI 0), .int (nI 0), .int (nI 0), .int (nI 0), .int (nI 0), .int (nI 0), .int (nI 0)])), (q1, .inl (κ 0, 56, .inl (nF (kyU 10))))] (congrArg (fun f => ([(a, .inr (6, [.null, .int (nI 0), .null, .null, .null, .int (nI 0), .null, .int (nI 0), .null, .int (nI 0), .null, .int (nI 0), .int (nI 0), .int (nI 0), .int (nI 0), .int (nI 0), .int (nI 0), .int (nI 0), .int (nI 0), .int (nI 0), .int (nI 0)])), (q1, .inl (κ 0, 56, .inl f))] : va_W)) (kyU_s 9)) ?_
  refine z_dup C dX6_init_63 rfl ?_
  refine z_bipush (v := nI 10) C dX6_init_64 (by decide) ?_
  refine z_bipush (v := nI 99) C dX6_init_66 (by decide) ?_
  refine z_iast C 1 0 rfl rfl (i := 10) (by decide) (by decide) dX6_init_68 [(a, .inr (6, [.null, .int (nI 0), .null, .null, .null, .int (nI 0), .null, .int (nI 0), .null, .int (nI 0), .null, .int (nI 0), .int (nI 0), .int (nI 0), .int (nI 0), .int (nI 0), .int (nI 0), .int (nI 0), .int (nI 0), .int (nI 0), .int (nI 0)])), (q1, .inl (κ 0, 56, .inl (nF (kyU 11))))] (congrArg (fun f => ([(a, .inr (6, [.null, .int (nI 0), .null, .null, .null, .int (nI 0), .null, .int (nI 0), .null, .int (nI 0), .null, .int (nI 0), .int (nI 0), .int (nI 0), .int (nI 0), .int (nI 0), .int (nI 0), .int (nI 0), .int (nI 0), .int (nI 0), .int (nI 0)])), (q1, .inl (κ 0, 56, .inl f))] : va_W)) (kyU_s 10)) ?_
  refine z_dup C dX6_init_69 rfl ?_
  refine z_bipush (v := nI 11) C dX6_init_70 (by decide) ?_
  refine z_bipush (v := nI 107) C dX6_init_72 (by decide) ?_
  refine z_iast C 1 0 rfl rfl (i := 11) (by decide) (by decide) dX6_init_74 [(a, .inr (6, [.null, .int (nI 0), .null, .null, .null, .int (nI 0), .null, .int (nI 0), .null, .int (nI 0), .null, .int (nI 0), .int (nI 0), .int (nI 0), .int (nI 0), .int (nI 0), .int (nI 0), .int (nI 0), .int (nI 0), .int (nI 0), .int (nI 0)])), (q1, .inl (κ 0, 56, .inl (nF (kyU 12))))] (congrArg (fun f => ([(a, .inr (6, [.null, .int (nI 0), .null, .null, .null, .int (nI 0), .null, .int (nI 0), .null, .int (nI 0), .null, .int (nI 0), .int (nI 0), .int (nI 0), .int (nI 0), .int (nI 0), .int (nI 0), .int (nI 0), .int (nI 0), .int (nI 0), .int (nI 0)])), (q1, .inl (κ 0, 56, .inl f))] : va_W)) (kyU_s 11)) ?_
  refine z_dup C dX6_init_75 rfl ?_
  refine z_bipush (v := nI 12) C dX6_init_76 (by decide) ?_
  refine z_iconst (v := nI 0) C dX6_init_78 (by decide) ?_
  refine z_iast C 1 0 rfl rfl (i := 12) (by decide) (by decide) dX6_init_79 [(a, .inr (6, [.null, .int (nI 0), .null, .null, .null, .int (nI 0), .null, .int (nI 0), .null, .int (nI 0), .null, .int (nI 0), .int (nI 0), .int (nI 0), .int (nI 0), .int (nI 0), .int (nI 0), .int (nI 0), .int (nI 0), .int (nI 0), .int (nI 0)])), (q1, .inl (κ 0, 56, .inl (nF (kyU 13))))] (congrArg (fun f => ([(a, .inr (6, [.null, .int (nI 0), .null, .null, .null, .int (nI 0), .null, .int (nI 0), .null, .int (nI 0), .null, .int (nI 0), .int (nI 0), .int (nI 0), .int (nI 0), .int (nI 0), .int (nI 0), .int (nI 0), .int (nI 0), .int (nI 0), .int (nI 0)])), (q1, .inl (κ 0, 56, .inl f))] : va_W)) (kyU_s 12)) ?_
  refine z_dup C dX6_init_80 rfl ?_
  refine z_bipush (v := nI 13) C dX6_init_81 (by decide) ?_
  refine z_iconst (v := nI 0) C dX6_init_83 (by decide) ?_
  refine z_iast C 1 0 rfl rfl (i := 13) (by decide) (by decide) dX6_init_84 [(a, .inr (6, [.null, .int (nI 0), .null, .null, .null, .int (nI 0), .null, .int (nI 0), .null, .int (nI 0), .null, .int (nI 0), .int (nI 0), .int (nI 0), .int (nI 0), .int (nI 0), .int (nI 0), .int (nI 0), .int (nI 0), .int (nI 0), .int (nI 0)])), (q1, .inl (κ 0, 56, .inl (nF (kyU 14))))] (congrArg (fun f => ([(a, .inr (6, [.null, .int (nI 0), .null, .null, .null, .int (nI 0), .null, .int (nI 0), .null, .int (nI 0), .null, .int (nI 0), .int (nI 0), .int (nI 0), .int (nI 0), .int (nI 0), .int (nI 0), .int (nI 0), .int (nI 0), .int (nI 0), .int (nI 0)])), (q1, .inl (κ 0, 56, .inl f))] : va_W)) (kyU_s 13)) ?_
  refine z_dup C dX6_init_85 rfl ?_
  refine z_bipush (v := nI 14) C dX6_init_86 (by decide) ?_
  refine z_bipush (v := nI 98) C dX6_init_88 (by decide) ?_
  refine z_iast C 1 0 rfl rfl (i := 14) (by decide) (by decide) dX6_init_90 [(a, .inr (6, [.null, .int (nI 0), .null, .null, .null, .int (nI 0), .null, .int (nI 0), .null, .int (nI 0), .null, .int (nI 0), .int (nI 0), .int (nI 0), .int (nI 0), .int (nI 0), .int (nI 0), .int (nI 0), .int (nI 0), .int (nI 0), .int (nI 0)])), (q1, .inl (κ 0, 56, .inl (nF (kyU 15))))] (congrArg (fun f => ([(a, .inr (6, [.null, .int (nI 0), .null, .null, .null, .int (nI 0), .null, .int (nI 0), .null, .int (nI 0), .null, .int (nI 0), .int (nI 0), .int (nI 0), .int (nI 0), .int (nI 0), .int (nI 0), .int (nI 0), .int (nI 0), .int (nI 0), .int (nI 0)])), (q1, .inl (κ 0, 56, .inl f))] : va_W)) (kyU_s 14)) ?_
  refine z_dup C dX6_init_91 rfl ?_
  refine z_bipush (v := nI 15) C dX6_init_92 (by decide) ?_
  refine z_bipush (v := nI 101) C dX6_init_94 (by decide) ?_
  refine z_iast C 1 0 rfl rfl (i := 15) (by decide) (by decide) dX6_init_96 [(a, .inr (6, [.null, .int (nI 0), .null, .null, .null, .int (nI 0), .null, .int (nI 0), .null, .int (nI 0), .null, .int (nI 0), .int (nI 0), .int (nI 0), .int (nI 0), .int (nI 0), .int (nI 0), .int (nI 0), .int (nI 0), .int (nI 0), .int (nI 0)])), (q1, .inl (κ 0, 56, .inl (nF (kyU 16))))] (congrArg (fun f => ([(a, .inr (6, [.null, .int (nI 0), .null, .null, .null, .int (nI 0), .null, .int (nI 0), .null, .int (nI 0), .null, .int (nI 0), .int (nI 0), .int (nI 0), .int (nI 0), .int (nI 0), .int (nI 0), .int (nI 0), .int (nI 0), .int (nI 0), .int (nI 0)])), (q1, .inl (κ 0, 56, .inl f))] : va_W)) (kyU_s 15)) ?_
  refine z_dup C dX6_init_97 rfl ?_
  refine z_bipush (v := nI 16) C dX6_init_98 (by decide) ?_
  refine z_bipush (v := nI 110) C dX6_init_100 (by decide) ?_
  refine z_iast C 1 0 rfl rfl (i := 16) (by decide) (by decide) dX6_init_102 [(a, .inr (6, [.null, .int (nI 0), .null, .null, .null, .int (nI 0), .null, .int (nI 0), .null, .int (nI 0), .null, .int (nI 0), .int (nI 0), .int (nI 0), .int (nI 0), .int (nI 0), .int (nI 0), .int (nI 0), .int (nI 0), .int (nI 0), .int (nI 0)])), (q1, .inl (κ 0, 56, .inl (nF (kyU 17))))] (congrArg (fun f => ([(a, .inr (6, [.null, .int (nI 0), .null, .null, .null, .int (nI 0), .null, .int (nI 0), .null, .int (nI 0), .null, .int (nI 0), .int (nI 0), .int (nI 0), .int (nI 0), .int (nI 0), .int (nI 0), .int (nI 0), .int (nI 0), .int (nI 0), .int (nI 0)])), (q1, .inl (κ 0, 56, .inl f))] : va_W)) (kyU_s 16)) ?_
  refine z_dup C dX6_init_103 rfl ?_
  refine z_bipush (v := nI 17) C dX6_init_104 (by decide) ?_
  refine z_bipush (v := nI 100) C dX6_init_106 (by decide) ?_
  refine z_iast C 1 0 rfl rfl (i := 17) (by decide) (by decide) dX6_init_108 [(a, .inr (6, [.null, .int (nI 0), .null, .null, .null, .int (nI 0), .null, .int (nI 0), .null, .int (nI 0), .null, .int (nI 0), .int (nI 0), .int (nI 0), .int (nI 0), .int (nI 0), .int (nI 0), .int (nI 0), .int (nI 0), .int (nI 0), .int (nI 0)])), (q1, .inl (κ 0, 56, .inl (nF (kyU 18))))] (congrArg (fun f => ([(a, .inr (6, [.null, .int (nI 0), .null, .null, .null, .int (nI 0), .null, .int (nI 0), .null, .int (nI 0), .null, .int (nI 0), .int (nI 0), .int (nI 0), .int (nI 0), .int (nI 0), .int (nI 0), .int (nI 0), .int (nI 0), .int (nI 0), .int (nI 0)])), (q1, .inl (κ 0, 56, .inl f))] : va_W)) (kyU_s 17)) ?_
  refine z_dup C dX6_init_109 rfl ?_
  refine z_bipush (v := nI 18) C dX6_init_110 (by decide) ?_
  refine z_iconst (v := nI 0) C dX6_init_112 (by decide) ?_
  refine z_iast C 1 0 rfl rfl (i := 18) (by decide) (by decide) dX6_init_113 [(a, .inr (6, [.null, .int (nI 0), .null, .null, .null, .int (nI 0), .null, .int (nI 0), .null, .int (nI 0), .null, .int (nI 0), .int (nI 0), .int (nI 0), .int (nI 0), .int (nI 0), .int (nI 0), .int (nI 0), .int (nI 0), .int (nI 0), .int (nI 0)])), (q1, .inl (κ 0, 56, .inl (nF (kyU 19))))] (congrArg (fun f => ([(a, .inr (6, [.null, .int (nI 0), .null, .null, .null, .int (nI 0), .null, .int (nI 0), .null, .int (nI 0), .null, .int (nI 0), .int (nI 0), .int (nI 0), .int (nI 0), .int (nI 0), .int (nI 0), .int (nI 0), .int (nI 0), .int (nI 0), .int (nI 0)])), (q1, .inl (κ 0, 56, .inl f))] : va_W)) (kyU_s 18)) ?_
  refine z_dup C dX6_init_114 rfl ?_
  refine z_bipush (v := nI 19) C dX6_init_115 (by decide) ?_
  refine z_iconst (v := nI 0) C dX6_init_117 (by decide) ?_
  refine z_iast C 1 0 rfl rfl (i := 19) (by decide) (by decide) dX6_init_118 [(a, .inr (6, [.null, .int (nI 0), .null, .null, .null, .int (nI 0), .null, .int (nI 0), .null, .int (nI 0), .null, .int (nI 0), .int (nI 0), .int (nI 0), .int (nI 0), .int (nI 0), .int (nI 0), .int (nI 0), .int (nI 0), .int (nI 0), .int (nI 0)])), (q1, .inl (κ 0, 56, .inl (nF (kyU 20))))] (congrArg (fun f => ([(a, .inr (6, [.null, .int (nI 0), .null, .null, .null, .int (nI 0), .null, .int (nI 0), .null, .int (nI 0), .null, .int (nI 0), .int (nI 0), .int (nI 0), .int (nI 0), .int (nI 0), .int (nI 0), .int (nI 0), .int (nI 0), .int (nI 0), .int (nI 0)])), (q1, .inl (κ 0, 56, .inl f))] : va_W)) (kyU_s 19)) ?_
  refine z_dup C dX6_init_119 rfl ?_
  refine z_bipush (v := nI 20) C dX6_init_120 (by decide) ?_
  refine z_iconst (v := nI 0) C dX6_init_122 (by decide) ?_
  refine z_iast C 1 0 rfl rfl (i := 20) (by decide) (by decide) dX6_init_123 [(a, .inr (6, [.null, .int (nI 0), .null, .null, .null, .int (nI 0), .null, .int (nI 0), .null, .int (nI 0), .null, .int (nI 0), .int (nI 0), .int (nI 0), .int (nI 0), .int (nI 0), .int (nI 0), .int (nI 0), .int (nI 0), .int (nI 0), .int (nI 0)])), (q1, .inl (κ 0, 56, .inl (nF (kyU 21))))] (congrArg (fun f => ([(a, .inr (6, [.null, .int (nI 0), .null, .null, .null, .int (nI 0), .null, .int (nI 0), .null, .int (nI 0), .null, .int (nI 0), .int (nI 0), .int (nI 0), .int (nI 0), .int (nI 0), .int (nI 0), .int (nI 0), .int (nI 0), .int (nI 0), .int (nI 0)])), (q1, .inl (κ 0, 56, .inl f))] : va_W)) (kyU_s 20)) ?_
  refine z_dup C dX6_init_124 rfl ?_
  refine z_bipush (v := nI 21) C dX6_init_125 (by decide) ?_
  refine z_bipush (v := nI 116) C dX6_init_127 (by decide) ?_
  refine z_iast C 1 0 rfl rfl (i := 21) (by decide) (by decide) dX6_init_129 [(a, .inr (6, [.null, .int (nI 0), .null, .null, .null, .int (nI 0), .null, .int (nI 0), .null, .int (nI 0), .null, .int (nI 0), .int (nI 0), .int (nI 0), .int (nI 0), .int (nI 0), .int (nI 0), .int (nI 0), .int (nI 0), .int (nI 0), .int (nI 0)])), (q1, .inl (κ 0, 56, .inl (nF (kyU 22))))] (congrArg (fun f => ([(a, .inr (6, [.null, .int (nI 0), .null, .null, .null, .int (nI 0), .null, .int (nI 0), .null, .int (nI 0), .null, .int (nI 0), .int (nI 0), .int (nI 0), .int (nI 0), .int (nI 0), .int (nI 0), .int (nI 0), .int (nI 0), .int (nI 0), .int (nI 0)])), (q1, .inl (κ 0, 56, .inl f))] : va_W)) (kyU_s 21)) ?_
  refine z_dup C dX6_init_130 rfl ?_
  refine z_bipush (v := nI 22) C dX6_init_131 (by decide) ?_
  refine z_bipush (v := nI 114) C dX6_init_133 (by decide) ?_
  refine z_iast C 1 0 rfl rfl (i := 22) (by decide) (by decide) dX6_init_135 [(a, .inr (6, [.null, .int (nI 0), .null, .null, .null, .int (nI 0), .null, .int (nI 0), .null, .int (nI 0), .null, .int (nI 0), .int (nI 0), .int (nI 0), .int (nI 0), .int (nI 0), .int (nI 0), .int (nI 0), .int (nI 0), .int (nI 0), .int (nI 0)])), (q1, .inl (κ 0, 56, .inl (nF (kyU 23))))] (congrArg (fun f => ([(a, .inr (6, [.null, .int (nI 0), .null, .null, .null, .int (nI 0), .null, .int (nI 0), .null, .int (nI 0), .null, .int (nI 0), .int (nI 0), .int (nI 0), .int (nI 0), .int (nI 0), .int (nI 0), .int (nI 0), .int (nI 0), .int (nI 0), .int (nI 0)])), (q1, .inl (κ 0, 56, .inl f))] : va_W)) (kyU_s 22)) ?_
  refine z_dup C dX6_init_136 rfl ?_
  refine z_bipush (v := nI 23) C dX6_init_137 (by decide) ?_
  refine z_bipush (v := nI 97) C dX6_init_139 (by decide) ?_
  refine z_iast C 1 0 rfl rfl (i := 23) (by decide) (by decide) dX6_init_141 [(a, .inr (6, [.null, .int (nI 0), .null, .null, .null, .int (nI 0), .null, .int (nI 0), .null, .int (nI 0), .null, .int (nI 0), .int (nI 0), .int (nI 0), .int (nI 0), .int (nI 0), .int (nI 0), .int (nI 0), .int (nI 0), .int (nI 0), .int (nI 0)])), (q1, .inl (κ 0, 56, .inl (nF (kyU 24))))] (congrArg (fun f => ([(a, .inr (6, [.null, .int (nI 0), .null, .null, .null, .int (nI 0), .null, .int (nI 0), .null, .int (nI 0), .null, .int (nI 0), .int (nI 0), .int (nI 0), .int (nI 0), .int (nI 0), .int (nI 0), .int (nI 0), .int (nI 0), .int (nI 0), .int (nI 0)])), (q1, .inl (κ 0, 56, .inl f))] : va_W)) (kyU_s 23)) ?_
  refine z_dup C dX6_init_142 rfl ?_
  refine z_bipush (v := nI 24) C dX6_init_143 (by decide) ?_
  refine z_bipush (v := nI 105) C dX6_init_145 (by decide) ?_
  refine z_iast C 1 0 rfl rfl (i := 24) (by decide) (by decide) dX6_init_147 [(a, .inr (6, [.null, .int (nI 0), .null, .null, .null, .int (nI 0), .null, .int (nI 0), .null, .int (nI 0), .null, .int (nI 0), .int (nI 0), .int (nI 0), .int (nI 0), .int (nI 0), .int (nI 0), .int (nI 0), .int (nI 0), .int (nI 0), .int (nI 0)])), (q1, .inl (κ 0, 56, .inl (nF (kyU 25))))] (congrArg (fun f => ([(a, .inr (6, [.null, .int (nI 0), .null, .null, .null, .int (nI 0), .null, .int (nI 0), .null, .int (nI 0), .null, .int (nI 0), .int (nI 0), .int (nI 0), .int (nI 0), .int (nI 0), .int (nI 0), .int (nI 0), .int (nI 0), .int (nI 0), .int (nI 0)])), (q1, .inl (κ 0, 56, .inl f))] : va_W)) (kyU_s 24)) ?_
  refine z_dup C dX6_init_148 rfl ?_
  refine z_bipush (v := nI 25) C dX6_init_149 (by decide) ?_
  refine z_bipush (v := nI 110) C dX6_init_151 (by decide) ?_
  refine z_iast C 1 0 rfl rfl (i := 25) (by decide) (by decide) dX6_init_153 [(a, .inr (6, [.null, .int (nI 0), .null, .null, .null, .int (nI 0), .null, .int (nI 0), .null, .int (nI 0), .null, .int (nI 0), .int (nI 0), .int (nI 0), .int (nI 0), .int (nI 0), .int (nI 0), .int (nI 0), .int (nI 0), .int (nI 0), .int (nI 0)])), (q1, .inl (κ 0, 56, .inl (nF (kyU 26))))] (congrArg (fun f => ([(a, .inr (6, [.null, .int (nI 0), .null, .null, .null, .int (nI 0), .null, .int (nI 0), .null, .int (nI 0), .null, .int (nI 0), .int (nI 0), .int (nI 0), .int (nI 0), .int (nI 0), .int (nI 0), .int (nI 0), .int (nI 0), .int (nI 0), .int (nI 0)])), (q1, .inl (κ 0, 56, .inl f))] : va_W)) (kyU_s 25)) ?_
  refine z_dup C dX6_init_154 rfl ?_
  refine z_bipush (v := nI 26) C dX6_init_155 (by decide) ?_
  refine z_iconst (v := nI 0) C dX6_init_157 (by decide) ?_
  refine z_iast C 1 0 rfl rfl (i := 26) (by decide) (by decide) dX6_init_158 [(a, .inr (6, [.null, .int (nI 0), .null, .null, .null, .int (nI 0), .null, .int (nI 0), .null, .int (nI 0), .null, .int (nI 0), .int (nI 0), .int (nI 0), .int (nI 0), .int (nI 0), .int (nI 0), .int (nI 0), .int (nI 0), .int (nI 0), .int (nI 0)])), (q1, .inl (κ 0, 56, .inl (nF (kyU 27))))] (congrArg (fun f => ([(a, .inr (6, [.null, .int (nI 0), .null, .null, .null, .int (nI 0), .null, .int (nI 0), .null, .int (nI 0), .null, .int (nI 0), .int (nI 0), .int (nI 0), .int (nI 0), .int (nI 0), .int (nI 0), .int (nI 0), .int (nI 0), .int (nI 0), .int (nI 0)])), (q1, .inl (κ 0, 56, .inl f))] : va_W)) (kyU_s 26)) ?_
  refine z_dup C dX6_init_159 rfl ?_
  refine z_bipush (v := nI 27) C dX6_init_160 (by decide) ?_
  refine z_iconst (v := nI 0) C dX6_init_162 (by decide) ?_
  refine z_iast C 1 0 rfl rfl (i := 27) (by decide) (by decide) dX6_init_163 [(a, .inr (6, [.null, .int (nI 0), .null, .null, .null, .int (nI 0), .null, .int (nI 0), .null, .int (nI 0), .null, .int (nI 0), .int (nI 0), .int (nI 0), .int (nI 0), .int (nI 0), .int (nI 0), .int (nI 0), .int (nI 0), .int (nI 0), .int (nI 0)])), (q1, .inl (κ 0, 56, .inl (nF (kyU 28))))] (congrArg (fun f => ([(a, .inr (6, [.null, .int (nI 0), .null, .null, .null, .int (nI 0), .null, .int (nI 0), .null, .int (nI 0), .null, .int (nI 0), .int (nI 0), .int (nI 0), .int (nI 0), .int (nI 0), .int (nI 0), .int (nI 0), .int (nI 0), .int (nI 0), .int (nI 0)])), (q1, .inl (κ 0, 56, .inl f))] : va_W)) (kyU_s 27)) ?_
  refine z_dup C dX6_init_164 rfl ?_
  refine z_bipush (v := nI 28) C dX6_init_165 (by decide) ?_
  refine z_bipush (v := nI 112) C dX6_init_167 (by decide) ?_
  refine z_iast C 1 0 rfl rfl (i := 28) (by decide) (by decide) dX6_init_169 [(a, .inr (6, [.null, .int (nI 0), .null, .null, .null, .int (nI 0), .null, .int (nI 0), .null, .int (nI 0), .null, .int (nI 0), .int (nI 0), .int (nI 0), .int (nI 0), .int (nI 0), .int (nI 0), .int (nI 0), .int (nI 0), .int (nI 0), .int (nI 0)])), (q1, .inl (κ 0, 56, .inl (nF (kyU 29))))] (congrArg (fun f => ([(a, .inr (6, [.null, .int (nI 0), .null, .null, .null, .int (nI 0), .null, .int (nI 0), .null, .int (nI 0), .null, .int (nI 0), .int (nI 0), .int (nI 0), .int (nI 0), .int (nI 0), .int (nI 0), .int (nI 0), .int (nI 0), .int (nI 0), .int (nI 0)])), (q1, .inl (κ 0, 56, .inl f))] : va_W)) (kyU_s 28)) ?_
  refine z_dup C dX6_init_170 rfl ?_
  refine z_bipush (v := nI 29) C dX6_init_171 (by decide) ?_
  refine z_bipush (v := nI 117) C dX6_init_173 (by decide) ?_
  refine z_iast C 1 0 rfl rfl (i := 29) (by decide) (by decide) dX6_init_175 [(a, .inr (6, [.null, .int (nI 0), .null, .null, .null, .int (nI 0), .null, .int (nI 0), .null, .int (nI 0), .null, .int (nI 0), .int (nI 0), .int (nI 0), .int (nI 0), .int (nI 0), .int (nI 0), .int (nI 0), .int (nI 0), .int (nI 0), .int (nI 0)])), (q1, .inl (κ 0, 56, .inl (nF (kyU 30))))] (congrArg (fun f => ([(a, .inr (6, [.null, .int (nI 0), .null, .null, .null, .int (nI 0), .null, .int (nI 0), .null, .int (nI 0), .null, .int (nI 0), .int (nI 0), .int (nI 0), .int (nI 0), .int (nI 0), .int (nI 0), .int (nI 0), .int (nI 0), .int (nI 0), .int (nI 0)])), (q1, .inl (κ 0, 56, .inl f))] : va_W)) (kyU_s 29)) ?_
  refine z_dup C dX6_init_176 rfl ?_
  refine z_bipush (v := nI 30) C dX6_init_177 (by decide) ?_
  refine z_bipush (v := nI 108) C dX6_init_179 (by decide) ?_
  refine z_iast C 1 0 rfl rfl (i := 30) (by decide) (by decide) dX6_init_181 [(a, .inr (6, [.null, .int (nI 0), .null, .null, .null, .int (nI 0), .null, .int (nI 0), .null, .int (nI 0), .null, .int (nI 0), .int (nI 0), .int (nI 0), .int (nI 0), .int (nI 0), .int (nI 0), .int (nI 0), .int (nI 0), .int (nI 0), .int (nI 0)])), (q1, .inl (κ 0, 56, .inl (nF (kyU 31))))] (congrArg (fun f => ([(a, .inr (6, [.null, .int (nI 0), .null, .null, .null, .int (nI 0), .null, .int (nI 0), .null, .int (nI 0), .null, .int (nI 0), .int (nI 0), .int (nI 0), .int (nI 0), .int (nI 0), .int (nI 0), .int (nI 0), .int (nI 0), .int (nI 0), .int (nI 0)])), (q1, .inl (κ 0, 56, .inl f))] : va_W)) (kyU_s 30)) ?_
  refine z_dup C dX6_init_182 rfl ?_
  refine z_bipush (v := nI 31) C dX6_init_183 (by decide) ?_
  refine z_bipush (v := nI 108) C dX6_init_185 (by decide) ?_
  refine z_iast C 1 0 rfl rfl (i := 31) (by decide) (by decide) dX6_init_187 [(a, .inr (6, [.null, .int (nI 0), .null, .null, .null, .int (nI 0), .null, .int (nI 0), .null, .int (nI 0), .null, .int (nI 0), .int (nI 0), .int (nI 0), .int (nI 0), .int (nI 0), .int (nI 0), .int (nI 0), .int (nI 0), .int (nI 0), .int (nI 0)])), (q1, .inl (κ 0, 56, .inl (nF (kyU 32))))] (congrArg (fun f => ([(a, .inr (6, [.null, .int (nI 0), .null, .null, .null, .int (nI 0), .null, .int (nI 0), .null, .int (nI 0), .null, .int (nI 0), .int (nI 0), .int (nI 0), .int (nI 0), .int (nI 0), .int (nI 0), .int (nI 0), .int (nI 0), .int (nI 0), .int (nI 0)])), (q1, .inl (κ 0, 56, .inl f))] : va_W)) (kyU_s 31)) ?_
  refine z_dup C dX6_init_188 rfl ?_
  refine z_bipush (v := nI 32) C dX6_init_189 (by decide) ?_
  refine z_iconst (v := nI 0) C dX6_init_191 (by decide) ?_
  refine z_iast C 1 0 rfl rfl (i := 32) (by decide) (by decide) dX6_init_192 [(a, .inr (6, [.null, .int (nI 0), .null, .null, .null, .int (nI 0), .null, .int (nI 0), .null, .int (nI 0), .null, .int (nI 0), .int (nI 0), .int (nI 0), .int (nI 0), .int (nI 0), .int (nI 0), .int (nI 0), .int (nI 0), .int (nI 0), .int (nI 0)])), (q1, .inl (κ 0, 56, .inl (nF (kyU 33))))] (congrArg (fun f => ([(a, .inr (6, [.null, .int (nI 0), .null, .null, .null, .int (nI 0), .null, .int (nI 0), .null, .int (nI 0), .null, .int (nI 0), .int (nI 0), .int (nI 0), .int (nI 0), .int (nI 0), .int (nI 0), .int (nI 0), .int (nI 0), .int (nI 0), .int (nI 0)])), (q1, .inl (κ 0, 56, .inl f))] : va_W)) (kyU_s 32)) ?_
  refine z_dup C dX6_init_193 rfl ?_
  refine z_bipush (v := nI 33) C dX6_init_194 (by decide) ?_
  refine z_iconst (v := nI 0) C dX6_init_196 (by decide) ?_
  refine z_iast C 1 0 rfl rfl (i := 33) (by decide) (by decide) dX6_init_197 [(a, .inr (6, [.null, .int (nI 0), .null, .null, .null, .int (nI 0), .null, .int (nI 0), .null, .int (nI 0), .null, .int (nI 0), .int (nI 0), .int (nI 0), .int (nI 0), .int (nI 0), .int (nI 0), .int (nI 0), .int (nI 0), .int (nI 0), .int (nI 0)])), (q1, .inl (κ 0, 56, .inl (nF (kyU 34))))] (congrArg (fun f => ([(a, .inr (6, [.null, .int (nI 0), .null, .null, .null, .int (nI 0), .null, .int (nI 0), .null, .int (nI 0), .null, .int (nI 0), .int (nI 0), .int (nI 0), .int (nI 0), .int (nI 0), .int (nI 0), .int (nI 0), .int (nI 0), .int (nI 0), .int (nI 0)])), (q1, .inl (κ 0, 56, .inl f))] : va_W)) (kyU_s 33)) ?_
  refine z_dup C dX6_init_198 rfl ?_
  refine z_bipush (v := nI 34) C dX6_init_199 (by decide) ?_
  refine z_iconst (v := nI 0) C dX6_init_201 (by decide) ?_
  refine z_iast C 1 0 rfl rfl (i := 34) (by decide) (by decide) dX6_init_202 [(a, .inr (6, [.null, .int (nI 0), .null, .null, .null, .int (nI 0), .null, .int (nI 0), .null, .int (nI 0), .null, .int (nI 0), .int (nI 0), .int (nI 0), .int (nI 0), .int (nI 0), .int (nI 0), .int (nI 0), .int (nI 0), .int (nI 0), .int (nI 0)])), (q1, .inl (κ 0, 56, .inl (nF (kyU 35))))] (congrArg (fun f => ([(a, .inr (6, [.null, .int (nI 0), .null, .null, .null, .int (nI 0), .null, .int (nI 0), .null, .int (nI 0), .null, .int (nI 0), .int (nI 0), .int (nI 0), .int (nI 0), .int (nI 0), .int (nI 0), .int (nI 0), .int (nI 0), .int (nI 0), .int (nI 0)])), (q1, .inl (κ 0, 56, .inl f))] : va_W)) (kyU_s 34)) ?_
  refine z_dup C dX6_init_203 rfl ?_
  refine z_bipush (v := nI 35) C dX6_init_204 (by decide) ?_
  refine z_bipush (v := nI 100) C dX6_init_206 (by decide) ?_
  refine z_iast C 1 0 rfl rfl (i := 35) (by decide) (by decide) dX6_init_208 [(a, .inr (6, [.null, .int (nI 0), .null, .null, .null, .int (nI 0), .null, .int (nI 0), .null, .int (nI 0), .null, .int (nI 0), .int (nI 0), .int (nI 0), .int (nI 0), .int (nI 0), .int (nI 0), .int (nI 0), .int (nI 0), .int (nI 0), .int (nI 0)])), (q1, .inl (κ 0, 56, .inl (nF (kyU 36))))] (congrArg (fun f => ([(a, .inr (6, [.null, .int (nI 0), .null, .null, .null, .int (nI 0), .null, .int (nI 0), .null, .int (nI 0), .null, .int (nI 0), .int (nI 0), .int (nI 0), .int (nI 0), .int (nI 0), .int (nI 0), .int (nI 0), .int (nI 0), .int (nI 0), .int (nI 0)])), (q1, .inl (κ 0, 56, .inl f))] : va_W)) (kyU_s 35)) ?_
  refine z_dup C dX6_init_209 rfl ?_
  refine z_bipush (v := nI 36) C dX6_init_210 (by decide) ?_
  refine z_bipush (v := nI 97) C dX6_init_212 (by decide) ?_
  refine z_iast C 1 0 rfl rfl (i := 36) (by decide) (by decide) dX6_init_214 [(a, .inr (6, [.null, .int (nI 0), .null, .null, .null, .int (nI 0), .null, .int (nI 0), .null, .int (nI 0), .null, .int (nI 0), .int (nI 0), .int (nI 0), .int (nI 0), .int (nI 0), .int (nI 0), .int (nI 0), .int (nI 0), .int (nI 0), .int (nI 0)])), (q1, .inl (κ 0, 56, .inl (nF (kyU 37))))] (congrArg (fun f => ([(a, .inr (6, [.null, .int (nI 0), .null, .null, .null, .int (nI 0), .null, .int (nI 0), .null, .int (nI 0), .null, .int (nI 0), .int (nI 0), .int (nI 0), .int (nI 0), .int (nI 0), .int (nI 0), .int (nI 0), .int (nI 0), .int (nI 0), .int (nI 0)])), (q1, .inl (κ 0, 56, .inl f))] : va_W)) (kyU_s 36)) ?_
  refine z_dup C dX6_init_215 rfl ?_
  refine z_bipush (v := nI 37) C dX6_init_216 (by decide) ?_
  refine z_bipush (v := nI 110) C dX6_init_218 (by decide) ?_
  refine z_iast C 1 0 rfl rfl (i := 37) (by decide) (by decide) dX6_init_220 [(a, .inr (6, [.null, .int (nI 0), .null, .null, .null, .int (nI 0), .null, .int (nI 0), .null, .int (nI 0), .null, .int (nI 0), .int (nI 0), .int (nI 0), .int (nI 0), .int (nI 0), .int (nI 0), .int (nI 0), .int (nI 0), .int (nI 0), .int (nI 0)])), (q1, .inl (κ 0, 56, .inl (nF (kyU 38))))] (congrArg (fun f => ([(a, .inr (6, [.null, .int (nI 0), .null, .null, .null, .int (nI 0), .null, .int (nI 0), .null, .int (nI 0), .null, .int (nI 0), .int (nI 0), .int (nI 0), .int (nI 0), .int (nI 0), .int (nI 0), .int (nI 0), .int (nI 0), .int (nI 0), .int (nI 0)])), (q1, .inl (κ 0, 56, .inl f))] : va_W)) (kyU_s 37)) ?_
  refine z_dup C dX6_init_221 rfl ?_
  refine z_bipush (v := nI 38) C dX6_init_222 (by decide) ?_
  refine z_bipush (v := nI 103) C dX6_init_224 (by decide) ?_
  refine z_iast C 1 0 rfl rfl (i := 38) (by decide) (by decide) dX6_init_226 [(a, .inr (6, [.null, .int (nI 0), .null, .null, .null, .int (nI 0), .null, .int (nI 0), .null, .int (nI 0), .null, .int (nI 0), .int (nI 0), .int (nI 0), .int (nI 0), .int (nI 0), .int (nI 0), .int (nI 0), .int (nI 0), .int (nI 0), .int (nI 0)])), (q1, .inl (κ 0, 56, .inl (nF (kyU 39))))] (congrArg (fun f => ([(a, .inr (6, [.null, .int (nI 0), .null, .null, .null, .int (nI 0), .null, .int (nI 0), .null, .int (nI 0), .null, .int (nI 0), .int (nI 0), .int (nI 0), .int (nI 0), .int (nI 0), .int (nI 0), .int (nI 0), .int (nI 0), .int (nI 0), .int (nI 0)])), (q1, .inl (κ 0, 56, .inl f))] : va_W)) (kyU_s 38)) ?_
  refine z_dup C dX6_init_227 rfl ?_
  refine z_bipush (v := nI 39) C dX6_init_228 (by decide) ?_
  refine z_bipush (v := nI 101) C dX6_init_230 (by decide) ?_
  refine z_iast C 1 0 rfl rfl (i := 39) (by decide) (by decide) dX6_init_232 [(a, .inr (6, [.null, .int (nI 0), .null, .null, .null, .int (nI 0), .null, .int (nI 0), .null, .int (nI 0), .null, .int (nI 0), .int (nI 0), .int (nI 0), .int (nI 0), .int (nI 0), .int (nI 0), .int (nI 0), .int (nI 0), .int (nI 0), .int (nI 0)])), (q1, .inl (κ 0, 56, .inl (nF (kyU 40))))] (congrArg (fun f => ([(a, .inr (6, [.null, .int (nI 0), .null, .null, .null, .int (nI 0), .null, .int (nI 0), .null, .int (nI 0), .null, .int (nI 0), .int (nI 0), .int (nI 0), .int (nI 0), .int (nI 0), .int (nI 0), .int (nI 0), .int (nI 0), .int (nI 0), .int (nI 0)])), (q1, .inl (κ 0, 56, .inl f))] : va_W)) (kyU_s 39)) ?_
  refine z_dup C dX6_init_233 rfl ?_
  refine z_bipush (v := nI 40) C dX6_init_234 (by decide) ?_
  refine z_bipush (v := nI 114) C dX6_init_236 (by decide) ?_
  refine z_iast C 1 0 rfl rfl (i := 40) (by decide) (by decide) dX6_init_238 [(a, .inr (6, [.null, .int (nI 0), .null, .null, .null, .int (nI 0), .null, .int (nI 0), .null, .int (nI 0), .null, .int (nI 0), .int (nI 0), .int (nI 0), .int (nI 0), .int (nI 0), .int (nI 0), .int (nI 0), .int (nI 0), .int (nI 0), .int (nI 0)])), (q1, .inl (κ 0, 56, .inl (nF (kyU 41))))] (congrArg (fun f => ([(a, .inr (6, [.null, .int (nI 0), .null, .null, .null, .int (nI 0), .null, .int (nI 0), .null, .int (nI 0), .null, .int (nI 0), .int (nI 0), .int (nI 0), .int (nI 0), .int (nI 0), .int (nI 0), .int (nI 0), .int (nI 0), .int (nI 0), .int (nI 0)])), (q1, .inl (κ 0, 56, .inl f))] : va_W)) (kyU_s 40)) ?_
  refine z_dup C dX6_init_239 rfl ?_
  refine z_bipush (v := nI 41) C dX6_init_240 (by decide) ?_
  refine z_iconst (v := nI 0) C dX6_init_242 (by decide) ?_
  refine z_iast C 1 0 rfl rfl (i := 41) (by decide) (by decide) dX6_init_243 [(a, .inr (6, [.null, .int (nI 0), .null, .null, .null, .int (nI 0), .null, .int (nI 0), .null, .int (nI 0), .null, .int (nI 0), .int (nI 0), .int (nI 0), .int (nI 0), .int (nI 0), .int (nI 0), .int (nI 0), .int (nI 0), .int (nI 0), .int (nI 0)])), (q1, .inl (κ 0, 56, .inl (nF (kyU 42))))] (congrArg (fun f => ([(a, .inr (6, [.null, .int (nI 0), .null, .null, .null, .int (nI 0), .null, .int (nI 0), .null, .int (nI 0), .null, .int (nI 0), .int (nI 0), .int (nI 0), .int (nI 0), .int (nI 0), .int (nI 0), .int (nI 0), .int (nI 0), .int (nI 0), .int (nI 0)])), (q1, .inl (κ 0, 56, .inl f))] : va_W)) (kyU_s 41)) ?_
  refine z_dup C dX6_init_244 rfl ?_
  refine z_bipush (v := nI 42) C dX6_init_245 (by decide) ?_
  refine z_bipush (v := nI 114) C dX6_init_247 (by decide) ?_
  refine z_iast C 1 0 rfl rfl (i := 42) (by decide) (by decide) dX6_init_249 [(a, .inr (6, [.null, .int (nI 0), .null, .null, .null, .int (nI 0), .null, .int (nI 0), .null, .int (nI 0), .null, .int (nI 0), .int (nI 0), .int (nI 0), .int (nI 0), .int (nI 0), .int (nI 0), .int (nI 0), .int (nI 0), .int (nI 0), .int (nI 0)])), (q1, .inl (κ 0, 56, .inl (nF (kyU 43))))] (congrArg (fun f => ([(a, .inr (6, [.null, .int (nI 0), .null, .null, .null, .int (nI 0), .null, .int (nI 0), .null, .int (nI 0), .null, .int (nI 0), .int (nI 0), .int (nI 0), .int (nI 0), .int (nI 0), .int (nI 0), .int (nI 0), .int (nI 0), .int (nI 0), .int (nI 0)])), (q1, .inl (κ 0, 56, .inl f))] : va_W)) (kyU_s 42)) ?_
  refine z_dup C dX6_init_250 rfl ?_
  refine z_bipush (v := nI 43) C dX6_init_251 (by decide) ?_
  refine z_bipush (v := nI 101) C dX6_init_253 (by decide) ?_
  refine z_iast C 1 0 rfl rfl (i := 43) (by decide) (by decide) dX6_init_255 [(a, .inr (6, [.null, .int (nI 0), .null, .null, .null, .int (nI 0), .null, .int (nI 0), .null, .int (nI 0), .null, .int (nI 0), .int (nI 0), .int (nI 0), .int (nI 0), .int (nI 0), .int (nI 0), .int (nI 0), .int (nI 0), .int (nI 0), .int (nI 0)])), (q1, .inl (κ 0, 56, .inl (nF (kyU 44))))] (congrArg (fun f => ([(a, .inr (6, [.null, .int (nI 0), .null, .null, .null, .int (nI 0), .null, .int (nI 0), .null, .int (nI 0), .null, .int (nI 0), .int (nI 0), .int (nI 0), .int (nI 0), .int (nI 0), .int (nI 0), .int (nI 0), .int (nI 0), .int (nI 0), .int (nI 0)])), (q1, .inl (κ 0, 56, .inl f))] : va_W)) (kyU_s 43)) ?_
  refine z_dup C dX6_init_256 rfl ?_
  refine z_bipush (v := nI 44) C dX6_init_257 (by decide) ?_
  refine z_bipush (v := nI 112) C dX6_init_259 (by decide) ?_
  refine z_iast C 1 0 rfl rfl (i := 44) (by decide) (by decide) dX6_init_261 [(a, .inr (6, [.null, .int (nI 0), .null, .null, .null, .int (nI 0), .null, .int (nI 0), .null, .int (nI 0), .null, .int (nI 0), .int (nI 0), .int (nI 0), .int (nI 0), .int (nI 0), .int (nI 0), .int (nI 0), .int (nI 0), .int (nI 0), .int (nI 0)])), (q1, .inl (κ 0, 56, .inl (nF (kyU 45))))] (congrArg (fun f => ([(a, .inr (6, [.null, .int (nI 0), .null, .null, .null, .int (nI 0), .null, .int (nI 0), .null, .int (nI 0), .null, .int (nI 0), .int (nI 0), .int (nI 0), .int (nI 0), .int (nI 0), .int (nI 0), .int (nI 0), .int (nI 0), .int (nI 0), .int (nI 0)])), (q1, .inl (κ 0, 56, .inl f))] : va_W)) (kyU_s 44)) ?_
  refine z_dup C dX6_init_262 rfl ?_
  refine z_bipush (v := nI 45) C dX6_init_263 (by decide) ?_
  refine z_bipush (v := nI 97) C dX6_init_265 (by decide) ?_
  refine z_iast C 1 0 rfl rfl (i := 45) (by decide) (by decide) dX6_init_267 [(a, .inr (6, [.null, .int (nI 0), .null, .null, .null, .int (nI 0), .null, .int (nI 0), .null, .int (nI 0), .null, .int (nI 0), .int (nI 0), .int (nI 0), .int (nI 0), .int (nI 0), .int (nI 0), .int (nI 0), .int (nI 0), .int (nI 0), .int (nI 0)])), (q1, .inl (κ 0, 56, .inl (nF (kyU 46))))] (congrArg (fun f => ([(a, .inr (6, [.null, .int (nI 0), .null, .null, .null, .int (nI 0), .null, .int (nI 0), .null, .int (nI 0), .null, .int (nI 0), .int (nI 0), .int (nI 0), .int (nI 0), .int (nI 0), .int (nI 0), .int (nI 0), .int (nI 0), .int (nI 0), .int (nI 0)])), (q1, .inl (κ 0, 56, .inl f))] : va_W)) (kyU_s 45)) ?_
  refine z_dup C dX6_init_268 rfl ?_
  refine z_bipush (v := nI 46) C dX6_init_269 (by decide) ?_
  refine z_bipush (v := nI 105) C dX6_init_271 (by decide) ?_
  refine z_iast C 1 0 rfl rfl (i := 46) (by decide) (by decide) dX6_init_273 [(a, .inr (6, [.null, .int (nI 0), .null, .null, .null, .int (nI 0), .null, .int (nI 0), .null, .int (nI 0), .null, .int (nI 0), .int (nI 0), .int (nI 0), .int (nI 0), .int (nI 0), .int (nI 0), .int (nI 0), .int (nI 0), .int (nI 0), .int (nI 0)])), (q1, .inl (κ 0, 56, .inl (nF (kyU 47))))] (congrArg (fun f => ([(a, .inr (6, [.null, .int (nI 0), .null, .null, .null, .int (nI 0), .null, .int (nI 0), .null, .int (nI 0), .null, .int (nI 0), .int (nI 0), .int (nI 0), .int (nI 0), .int (nI 0), .int (nI 0), .int (nI 0), .int (nI 0), .int (nI 0), .int (nI 0)])), (q1, .inl (κ 0, 56, .inl f))] : va_W)) (kyU_s 46)) ?_
  refine z_dup C dX6_init_274 rfl ?_
  refine z_bipush (v := nI 47) C dX6_init_275 (by decide) ?_
  refine z_bipush (v := nI 114) C dX6_init_277 (by decide) ?_
  refine z_iast C 1 0 rfl rfl (i := 47) (by decide) (by decide) dX6_init_279 [(a, .inr (6, [.null, .int (nI 0), .null, .null, .null, .int (nI 0), .null, .int (nI 0), .null, .int (nI 0), .null, .int (nI 0), .int (nI 0), .int (nI 0), .int (nI 0), .int (nI 0), .int (nI 0), .int (nI 0), .int (nI 0), .int (nI 0), .int (nI 0)])), (q1, .inl (κ 0, 56, .inl (nF (kyU 48))))] (congrArg (fun f => ([(a, .inr (6, [.null, .int (nI 0), .null, .null, .null, .int (nI 0), .null, .int (nI 0), .null, .int (nI 0), .null, .int (nI 0), .int (nI 0), .int (nI 0), .int (nI 0), .int (nI 0), .int (nI 0), .int (nI 0), .int (nI 0), .int (nI 0), .int (nI 0)])), (q1, .inl (κ 0, 56, .inl f))] : va_W)) (kyU_s 47)) ?_
  refine z_dup C dX6_init_280 rfl ?_
  refine z_bipush (v := nI 48) C dX6_init_281 (by decide) ?_
  refine z_iconst (v := nI 0) C dX6_init_283 (by decide) ?_
  refine z_iast C 1 0 rfl rfl (i := 48) (by decide) (by decide) dX6_init_284 [(a, .inr (6, [.null, .int (nI 0), .null, .null, .null, .int (nI 0), .null, .int (nI 0), .null, .int (nI 0), .null, .int (nI 0), .int (nI 0), .int (nI 0), .int (nI 0), .int (nI 0), .int (nI 0), .int (nI 0), .int (nI 0), .int (nI 0), .int (nI 0)])), (q1, .inl (κ 0, 56, .inl (nF (kyU 49))))] (congrArg (fun f => ([(a, .inr (6, [.null, .int (nI 0), .null, .null, .null, .int (nI 0), .null, .int (nI 0), .null, .int (nI 0), .null, .int (nI 0), .int (nI 0), .int (nI 0), .int (nI 0), .int (nI 0), .int (nI 0), .int (nI 0), .int (nI 0), .int (nI 0), .int (nI 0)])), (q1, .inl (κ 0, 56, .inl f))] : va_W)) (kyU_s 48)) ?_
  refine z_dup C dX6_init_285 rfl ?_
  refine z_bipush (v := nI 49) C dX6_init_286 (by decide) ?_
  refine z_bipush (v := nI 116) C dX6_init_288 (by decide) ?_
  refine z_iast C 1 0 rfl rfl (i := 49) (by decide) (by decide) dX6_init_290 [(a, .inr (6, [.null, .int (nI 0), .null, .null, .null, .int (nI 0), .null, .int (nI 0), .null, .int (nI 0), .null, .int (nI 0), .int (nI 0), .int (nI 0), .int (nI 0), .int (nI 0), .int (nI 0), .int (nI 0), .int (nI 0), .int (nI 0), .int (nI 0)])), (q1, .inl (κ 0, 56, .inl (nF (kyU 50))))] (congrArg (fun f => ([(a, .inr (6, [.null, .int (nI 0), .null, .null, .null, .int (nI 0), .null, .int (nI 0), .null, .int (nI 0), .null, .int (nI 0), .int (nI 0), .int (nI 0), .int (nI 0), .int (nI 0), .int (nI 0), .int (nI 0), .int (nI 0), .int (nI 0), .int (nI 0)])), (q1, .inl (κ 0, 56, .inl f))] : va_W)) (kyU_s 49)) ?_
  refine z_dup C dX6_init_291 rfl ?_
  refine z_bipush (v := nI 50) C dX6_init_292 (by decide) ?_
  refine z_bipush (v := nI 105) C dX6_init_294 (by decide) ?_
  refine z_iast C 1 0 rfl rfl (i := 50) (by decide) (by decide) dX6_init_296 [(a, .inr (6, [.null, .int (nI 0), .null, .null, .null, .int (nI 0), .null, .int (nI 0), .null, .int (nI 0), .null, .int (nI 0), .int (nI 0), .int (nI 0), .int (nI 0), .int (nI 0), .int (nI 0), .int (nI 0), .int (nI 0), .int (nI 0), .int (nI 0)])), (q1, .inl (κ 0, 56, .inl (nF (kyU 51))))] (congrArg (fun f => ([(a, .inr (6, [.null, .int (nI 0), .null, .null, .null, .int (nI 0), .null, .int (nI 0), .null, .int (nI 0), .null, .int (nI 0), .int (nI 0), .int (nI 0), .int (nI 0), .int (nI 0), .int (nI 0), .int (nI 0), .int (nI 0), .int (nI 0), .int (nI 0)])), (q1, .inl (κ 0, 56, .inl f))] : va_W)) (kyU_s 50)) ?_
  refine z_dup C dX6_init_297 rfl ?_
  refine z_bipush (v := nI 51) C dX6_init_298 (by decide) ?_
  refine z_bipush (v := nI 99) C dX6_init_300 (by decide) ?_
  refine z_iast C 1 0 rfl rfl (i := 51) (by decide) (by decide) dX6_init_302 [(a, .inr (6, [.null, .int (nI 0), .null, .null, .null, .int (nI 0), .null, .int (nI 0), .null, .int (nI 0), .null, .int (nI 0), .int (nI 0), .int (nI 0), .int (nI 0), .int (nI 0), .int (nI 0), .int (nI 0), .int (nI 0), .int (nI 0), .int (nI 0)])), (q1, .inl (κ 0, 56, .inl (nF (kyU 52))))] (congrArg (fun f => ([(a, .inr (6, [.null, .int (nI 0), .null, .null, .null, .int (nI 0), .null, .int (nI 0), .null, .int (nI 0), .null, .int (nI 0), .int (nI 0), .int (nI 0), .int (nI 0), .int (nI 0), .int (nI 0), .int (nI 0), .int (nI 0), .int (nI 0), .int (nI 0)])), (q1, .inl (κ 0, 56, .inl f))] : va_W)) (kyU_s 51)) ?_
  refine z_dup C dX6_init_303 rfl ?_
  refine z_bipush (v := nI 52) C dX6_init_304 (by decide) ?_
  refine z_bipush (v := nI 107) C dX6_init_306 (by decide) ?_
  refine z_iast C 1 0 rfl rfl (i := 52) (by decide) (by decide) dX6_init_308 [(a, .inr (6, [.null, .int (nI 0), .null, .null, .null, .int (nI 0), .null, .int (nI 0), .null, .int (nI 0), .null, .int (nI 0), .int (nI 0), .int (nI 0), .int (nI 0), .int (nI 0), .int (nI 0), .int (nI 0), .int (nI 0), .int (nI 0), .int (nI 0)])), (q1, .inl (κ 0, 56, .inl (nF (kyU 53))))] (congrArg (fun f => ([(a, .inr (6, [.null, .int (nI 0), .null, .null, .null, .int (nI 0), .null, .int (nI 0), .null, .int (nI 0), .null, .int (nI 0), .int (nI 0), .int (nI 0), .int (nI 0), .int (nI 0), .int (nI 0), .int (nI 0), .int (nI 0), .int (nI 0), .int (nI 0)])), (q1, .inl (κ 0, 56, .inl f))] : va_W)) (kyU_s 52)) ?_
  refine z_dup C dX6_init_309 rfl ?_
  refine z_bipush (v := nI 53) C dX6_init_310 (by decide) ?_
  refine z_bipush (v := nI 115) C dX6_init_312 (by decide) ?_
  refine z_iast C 1 0 rfl rfl (i := 53) (by decide) (by decide) dX6_init_314 [(a, .inr (6, [.null, .int (nI 0), .null, .null, .null, .int (nI 0), .null, .int (nI 0), .null, .int (nI 0), .null, .int (nI 0), .int (nI 0), .int (nI 0), .int (nI 0), .int (nI 0), .int (nI 0), .int (nI 0), .int (nI 0), .int (nI 0), .int (nI 0)])), (q1, .inl (κ 0, 56, .inl (nF (kyU 54))))] (congrArg (fun f => ([(a, .inr (6, [.null, .int (nI 0), .null, .null, .null, .int (nI 0), .null, .int (nI 0), .null, .int (nI 0), .null, .int (nI 0), .int (nI 0), .int (nI 0), .int (nI 0), .int (nI 0), .int (nI 0), .int (nI 0), .int (nI 0), .int (nI 0), .int (nI 0)])), (q1, .inl (κ 0, 56, .inl f))] : va_W)) (kyU_s 53)) ?_
  refine z_dup C dX6_init_315 rfl ?_
  refine z_bipush (v := nI 54) C dX6_init_316 (by decide) ?_
  refine z_iconst (v := nI 0) C dX6_init_318 (by decide) ?_
  refine z_iast C 1 0 rfl rfl (i := 54) (by decide) (by decide) dX6_init_319 [(a, .inr (6, [.null, .int (nI 0), .null, .null, .null, .int (nI 0), .null, .int (nI 0), .null, .int (nI 0), .null, .int (nI 0), .int (nI 0), .int (nI 0), .int (nI 0), .int (nI 0), .int (nI 0), .int (nI 0), .int (nI 0), .int (nI 0), .int (nI 0)])), (q1, .inl (κ 0, 56, .inl (nF (kyU 55))))] (congrArg (fun f => ([(a, .inr (6, [.null, .int (nI 0), .null, .null, .null, .int (nI 0), .null, .int (nI 0), .null, .int (nI 0), .null, .int (nI 0), .int (nI 0), .int (nI 0), .int (nI 0), .int (nI 0), .int (nI 0), .int (nI 0), .int (nI 0), .int (nI 0), .int (nI 0)])), (q1, .inl (κ 0, 56, .inl f))] : va_W)) (kyU_s 54)) ?_
  refine z_dup C dX6_init_320 rfl ?_
  refine z_bipush (v := nI 55) C dX6_init_321 (by decide) ?_
  refine z_iconst (v := nI 0) C dX6_init_323 (by decide) ?_
  refine z_iast C 1 0 rfl rfl (i := 55) (by decide) (by decide) dX6_init_324 [(a, .inr (6, [.null, .int (nI 0), .null, .null, .null, .int (nI 0), .null, .int (nI 0), .null, .int (nI 0), .null, .int (nI 0), .int (nI 0), .int (nI 0), .int (nI 0), .int (nI 0), .int (nI 0), .int (nI 0), .int (nI 0), .int (nI 0), .int (nI 0)])), (q1, .inl (κ 0, 56, .inl (nF (kyU 56))))] (congrArg (fun f => ([(a, .inr (6, [.null, .int (nI 0), .null, .null, .null, .int (nI 0), .null, .int (nI 0), .null, .int (nI 0), .null, .int (nI 0), .int (nI 0), .int (nI 0), .int (nI 0), .int (nI 0), .int (nI 0), .int (nI 0), .int (nI 0), .int (nI 0), .int (nI 0)])), (q1, .inl (κ 0, 56, .inl f))] : va_W)) (kyU_s 55)) ?_
  refine z_putF C hin tyX6 tyX6_ok nmX6 hnm 0 rfl rfl 0 (by decide) (show Cond.fieldLink RX6 7 "PeatRailwayModel" "keys" "[I" ∈ wsX6_init from by decide +kernel) rfl rfl rfl rfl (Nat.le_of_ble_eq_true rfl) dX6_init_325 [(a, .inr (6, [.ref q1, .int (nI 0), .null, .null, .null, .int (nI 0), .null, .int (nI 0), .null, .int (nI 0), .null, .int (nI 0), .int (nI 0), .int (nI 0), .int (nI 0), .int (nI 0), .int (nI 0), .int (nI 0), .int (nI 0), .int (nI 0), .int (nI 0)])), (q1, .inl (κ 0, 56, .inl (nF (kyU 56))))] rfl ?_
  refine z_aload_n C dX6_init_328 0 rfl ?_
  refine z_sipush (v := nI 140) C dX6_init_329 (by decide) ?_
  refine z_newaB C (ty := .int) (by decide +kernel) rfl 0 rfl hu_int (N := 140) (a0 := (140, .inl (nF (fun _ => 0)))) (fun _ => rfl) (by decide) (by decide) (Nat.le_of_ble_eq_true rfl) (Nat.le_of_ble_eq_true rfl) dX6_init_332 (fun q2 => ?_)
  refine z_putF C hin tyX6 tyX6_ok nmX6 hnm 0 rfl rfl 2 (by decide) (show Cond.fieldLink RX6 13 "PeatRailwayModel" "now" "[I" ∈ wsX6_init from by decide +kernel) rfl rfl rfl rfl (Nat.le_of_ble_eq_true rfl) dX6_init_334 [(a, .inr (6, [.ref q1, .int (nI 0), .ref q2, .null, .null, .int (nI 0), .null, .int (nI 0), .null, .int (nI 0), .null, .int (nI 0), .int (nI 0), .int (nI 0), .int (nI 0), .int (nI 0), .int (nI 0), .int (nI 0), .int (nI 0), .int (nI 0), .int (nI 0)])), (q1, .inl (κ 0, 56, .inl (nF (kyU 56)))), (q2, .inl (κ 0, 140, .inl (nF (fun _ => 0))))] rfl ?_
  refine z_aload_n C dX6_init_337 0 rfl ?_
  refine z_sipush (v := nI 140) C dX6_init_338 (by decide) ?_
  refine z_newaB C (ty := .int) (by decide +kernel) rfl 0 rfl hu_int (N := 140) (a0 := (140, .inl (nF (fun _ => 0)))) (fun _ => rfl) (by decide) (by decide) (Nat.le_of_ble_eq_true rfl) (Nat.le_of_ble_eq_true rfl) dX6_init_341 (fun q3 => ?_)
  refine z_putF C hin tyX6 tyX6_ok nmX6 hnm 0 rfl rfl 3 (by decide) (show Cond.fieldLink RX6 16 "PeatRailwayModel" "aside" "[I" ∈ wsX6_init from by decide +kernel) rfl rfl rfl rfl (Nat.le_of_ble_eq_true rfl) dX6_init_343 [(a, .inr (6, [.ref q1, .int (nI 0), .ref q2, .ref q3, .null, .int (nI 0), .null, .int (nI 0), .null, .int (nI 0), .null, .int (nI 0), .int (nI 0), .int (nI 0), .int (nI 0), .int (nI 0), .int (nI 0), .int (nI 0), .int (nI 0), .int (nI 0), .int (nI 0)])), (q1, .inl (κ 0, 56, .inl (nF (kyU 56)))), (q2, .inl (κ 0, 140, .inl (nF (fun _ => 0)))), (q3, .inl (κ 0, 140, .inl (nF (fun _ => 0))))] rfl ?_
  refine z_aload_n C dX6_init_346 0 rfl ?_
  refine z_sipush (v := nI 1400) C dX6_init_347 (by decide) ?_
  refine z_newaB C (ty := .int) (by decide +kernel) rfl 0 rfl hu_int (N := 1400) (a0 := (1400, .inl (nF (fun _ => 0)))) (fun _ => rfl) (by decide) (by decide) (Nat.le_of_ble_eq_true rfl) (Nat.le_of_ble_eq_true rfl) dX6_init_350 (fun q4 => ?_)
  refine z_putF C hin tyX6 tyX6_ok nmX6 hnm 0 rfl rfl 4 (by decide) (show Cond.fieldLink RX6 19 "PeatRailwayModel" "old" "[I" ∈ wsX6_init from by decide +kernel) rfl rfl rfl rfl (Nat.le_of_ble_eq_true rfl) dX6_init_352 [(a, .inr (6, [.ref q1, .int (nI 0), .ref q2, .ref q3, .ref q4, .int (nI 0), .null, .int (nI 0), .null, .int (nI 0), .null, .int (nI 0), .int (nI 0), .int (nI 0), .int (nI 0), .int (nI 0), .int (nI 0), .int (nI 0), .int (nI 0), .int (nI 0), .int (nI 0)])), (q1, .inl (κ 0, 56, .inl (nF (kyU 56)))), (q2, .inl (κ 0, 140, .inl (nF (fun _ => 0)))), (q3, .inl (κ 0, 140, .inl (nF (fun _ => 0)))), (q4, .inl (κ 0, 1400, .inl (nF (fun _ => 0))))] rfl ?_
  refine z_aload_n C dX6_init_355 0 rfl ?_
  refine z_sipush (v := nI 280) C dX6_init_356 (by decide) ?_
  refine z_newaB C (ty := .int) (by decide +kernel) rfl 0 rfl hu_int (N := 280) (a0 := (280, .inl (nF (fun _ => 0)))) (fun _ => rfl) (by decide) (by decide) (Nat.le_of_ble_eq_true rfl) (Nat.le_of_ble_eq_true rfl) dX6_init_359 (fun q6 => ?_)
  refine z_putF C hin tyX6 tyX6_ok nmX6 hnm 0 rfl rfl 6 (by decide) (show Cond.fieldLink RX6 22 "PeatRailwayModel" "saved" "[I" ∈ wsX6_init from by decide +kernel) rfl rfl rfl rfl (Nat.le_of_ble_eq_true rfl) dX6_init_361 [(a, .inr (6, [.ref q1, .int (nI 0), .ref q2, .ref q3, .ref q4, .int (nI 0), .ref q6, .int (nI 0), .null, .int (nI 0), .null, .int (nI 0), .int (nI 0), .int (nI 0), .int (nI 0), .int (nI 0), .int (nI 0), .int (nI 0), .int (nI 0), .int (nI 0), .int (nI 0)])), (q1, .inl (κ 0, 56, .inl (nF (kyU 56)))), (q2, .inl (κ 0, 140, .inl (nF (fun _ => 0)))), (q3, .inl (κ 0, 140, .inl (nF (fun _ => 0)))), (q4, .inl (κ 0, 1400, .inl (nF (fun _ => 0)))), (q6, .inl (κ 0, 280, .inl (nF (fun _ => 0))))] rfl ?_
  refine z_aload_n C dX6_init_364 0 rfl ?_
  refine z_sipush (v := nI 600) C dX6_init_365 (by decide) ?_
  refine z_newaB C (ty := .byte) (by decide +kernel) rfl 1 rfl hu_byte (N := 600) (a0 := (600, .inl (fun _ => 0))) (fun _ => rfl) (by decide) (by decide) (Nat.le_of_ble_eq_true rfl) (Nat.le_of_ble_eq_true rfl) dX6_init_368 (fun q8 => ?_)
  refine z_putF C hin tyX6 tyX6_ok nmX6 hnm 0 rfl rfl 8 (by decide) (show Cond.fieldLink RX6 25 "PeatRailwayModel" "input" "[B" ∈ wsX6_init from by decide +kernel) rfl rfl rfl rfl (Nat.le_of_ble_eq_true rfl) dX6_init_370 [(a, .inr (6, [.ref q1, .int (nI 0), .ref q2, .ref q3, .ref q4, .int (nI 0), .ref q6, .int (nI 0), .ref q8, .int (nI 0), .null, .int (nI 0), .int (nI 0), .int (nI 0), .int (nI 0), .int (nI 0), .int (nI 0), .int (nI 0), .int (nI 0), .int (nI 0), .int (nI 0)])), (q1, .inl (κ 0, 56, .inl (nF (kyU 56)))), (q2, .inl (κ 0, 140, .inl (nF (fun _ => 0)))), (q3, .inl (κ 0, 140, .inl (nF (fun _ => 0)))), (q4, .inl (κ 0, 1400, .inl (nF (fun _ => 0)))), (q6, .inl (κ 0, 280, .inl (nF (fun _ => 0)))), (q8, .inl (κ 1, 600, .inl (fun _ => 0)))] rfl ?_
  refine z_aload_n C dX6_init_373 0 rfl ?_
  refine z_sipush (v := nI 200) C dX6_init_374 (by decide) ?_
  refine z_newaB C (ty := .byte) (by decide +kernel) rfl 1 rfl hu_byte (N := 200) (a0 := (200, .inl (nF (fun _ => 0)))) (fun _ => rfl) (by decide) (by decide) (Nat.le_of_ble_eq_true rfl) (Nat.le_of_ble_eq_true rfl) dX6_init_377 (fun q10 => ?_)
  refine z_putF C hin tyX6 tyX6_ok nmX6 hnm 0 rfl rfl 10 (by decide) (show Cond.fieldLink RX6 29 "PeatRailwayModel" "output" "[B" ∈ wsX6_init from by decide +kernel) rfl rfl rfl rfl (Nat.le_of_ble_eq_true rfl) dX6_init_379 [(a, .inr (6, [.ref q1, .int (nI 0), .ref q2, .ref q3, .ref q4, .int (nI 0), .ref q6, .int (nI 0), .ref q8, .int (nI 0), .ref q10, .int (nI 0), .int (nI 0), .int (nI 0), .int (nI 0), .int (nI 0), .int (nI 0), .int (nI 0), .int (nI 0), .int (nI 0), .int (nI 0)])), (q1, .inl (κ 0, 56, .inl (nF (kyU 56)))), (q2, .inl (κ 0, 140, .inl (nF (fun _ => 0)))), (q3, .inl (κ 0, 140, .inl (nF (fun _ => 0)))), (q4, .inl (κ 0, 1400, .inl (nF (fun _ => 0)))), (q6, .inl (κ 0, 280, .inl (nF (fun _ => 0)))), (q8, .inl (κ 1, 600, .inl (fun _ => 0))), (q10, .inl (κ 1, 200, .inl (nF (fun _ => 0))))] rfl ?_
  refine z_aload_n C dX6_init_382 0 rfl ?_
  refine z_iconst (v := (-1)) C dX6_init_383 (by decide) ?_
  refine z_put C hin tyX6 tyX6_ok nmX6 0 rfl rfl 13 (by decide) (show Cond.fieldLink RX6 32 "PeatRailwayModel" "errorOffset" "I" ∈ wsX6_init from by decide +kernel) rfl rfl rfl (Nat.le_of_ble_eq_true rfl) dX6_init_384 [(a, .inr (6, [.ref q1, .int (nI 0), .ref q2, .ref q3, .ref q4, .int (nI 0), .ref q6, .int (nI 0), .ref q8, .int (nI 0), .ref q10, .int (nI 0), .int (nI 0), .int (-1), .int (nI 0), .int (nI 0), .int (nI 0), .int (nI 0), .int (nI 0), .int (nI 0), .int (nI 0)])), (q1, .inl (κ 0, 56, .inl (nF (kyU 56)))), (q2, .inl (κ 0, 140, .inl (nF (fun _ => 0)))), (q3, .inl (κ 0, 140, .inl (nF (fun _ => 0)))), (q4, .inl (κ 0, 1400, .inl (nF (fun _ => 0)))), (q6, .inl (κ 0, 280, .inl (nF (fun _ => 0)))), (q8, .inl (κ 1, 600, .inl (fun _ => 0))), (q10, .inl (κ 1, 200, .inl (nF (fun _ => 0))))] rfl ?_
  obtain ⟨Ad, hAd⟩ : ∃ Ad : Nat → Nat, Ad = fun k => [a, q1, q2, q3, q4, 0, q6, 0, q8, 0, q10].getD k 0 := ⟨_, rfl⟩
  have hA0 : a = Ad 0 := by rw [hAd]; rfl
  refine z_eq (ws' := (Ad 0, .inr (6, [.ref (Ad 1), .int (nI 0), .ref (Ad 2), .ref (Ad 3), .ref (Ad 4), .int (nI 0), .ref (Ad 6), .int (nI 0), .ref (Ad 8), .int (nI 0), .ref (Ad 10), .int (nI 0), .int (nI 0), .int (-1), .int (nI 0), .int (nI 0), .int (nI 0), .int (nI 0), .int (nI 0), .int (nI 0), .int (nI 0)])) :: (Ad 1, .inl (κ 0, 56, .inl (nF (kyU 56)))) :: [(Ad 2, .inl (κ 0, 140, .inl (nF (fun _ => 0)))), (Ad 3, .inl (κ 0, 140, .inl (nF (fun _ => 0)))), (Ad 4, .inl (κ 0, 1400, .inl (nF (fun _ => 0)))), (Ad 6, .inl (κ 0, 280, .inl (nF (fun _ => 0)))), (Ad 8, .inl (κ 1, 600, .inl (fun _ => 0))), (Ad 10, .inl (κ 1, 200, .inl (nF (fun _ => 0))))]) (lv' := [(0, .ref (Ad 0))]) ?_ (by rw [hAd]; rfl) (by rw [hA0]) rfl rfl
  refine z_row (X := [(Ad 0, .inr (6, [.ref (Ad 1), .int (nI 0), .ref (Ad 2), .ref (Ad 3), .ref (Ad 4), .int (nI 0), .ref (Ad 6), .int (nI 0), .ref (Ad 8), .int (nI 0), .ref (Ad 10), .int (nI 0), .int (nI 0), .int (-1), .int (nI 0), .int (nI 0), .int (nI 0), .int (nI 0), .int (nI 0), .int (nI 0), .int (nI 0)]))]) (nF kyF) (fun j hj => congrArg nI (if_pos hj)) ?_
  refine z_eq (ws' := MW κ Ad (-1) (fun _ => 0) (fun _ => 0) S0z (fun _ => 0) (fun _ => 0) (fun _ => 0) (fun _ => 0)) ?_ rfl rfl rfl rfl
  have b0 : Bd 20 S0z := Bd_0
  refine z_aload_n C dX6_init_387 0 rfl ?_
  refine z_bipush (v := nI 6) C dX6_init_388 (by decide) ?_
  refine z_iconst (v := nI 2) C dX6_init_390 (by decide) ?_
  refine z_iconst (v := nI 5) C dX6_init_391 (by decide) ?_
  refine z_iconst (v := nI 0) C dX6_init_392 (by decide) ?_
  refine zm_call C (mX6_lays l D κ Ad (-1) (fun _ => 0) (fun _ => 0) S0z (fun _ => 0) (fun _ => 0) (fun _ => 0) (fun _ => 0) 6 2 5 0 20 b0 (by decide +kernel)) gX6_init_X6_lays rfl rfl rfl hdX6_lays ⟨(Nat.le_of_ble_eq_true rfl), (Nat.le_of_ble_eq_true rfl)⟩ rfl (Nat.le_of_ble_eq_true rfl) dX6_init_393 ⟨(Nat.le_of_ble_eq_true rfl), (Nat.le_of_ble_eq_true rfl)⟩ ?_
  have b1 : Bd 20 S1z := layS_bd b0 (by decide +kernel) (by decide) (by decide) (by decide) (by decide)
  refine z_eq (ws' := MW κ Ad (-1) (fun _ => 0) (fun _ => 0) S1z (fun _ => 0) (fun _ => 0) (fun _ => 0) (fun _ => 0)) ?_ rfl rfl rfl rfl
  refine z_aload_n C dX6_init_396 0 rfl ?_
  refine z_iconst (v := nI 4) C dX6_init_397 (by decide) ?_
  refine z_bipush (v := nI 7) C dX6_init_398 (by decide) ?_
  refine z_iconst (v := nI 3) C dX6_init_400 (by decide) ?_
  refine z_iconst (v := nI 1) C dX6_init_401 (by decide) ?_
  refine zm_call C (mX6_lays l D κ Ad (-1) (fun _ => 0) (fun _ => 0) S1z (fun _ => 0) (fun _ => 0) (fun _ => 0) (fun _ => 0) 4 7 3 1 20 b1 (by decide +kernel)) gX6_init_X6_lays rfl rfl rfl hdX6_lays ⟨(Nat.le_of_ble_eq_true rfl), (Nat.le_of_ble_eq_true rfl)⟩ rfl (Nat.le_of_ble_eq_true rfl) dX6_init_402 ⟨(Nat.le_of_ble_eq_true rfl), (Nat.le_of_ble_eq_true rfl)⟩ ?_
  have b2 : Bd 20 S2z := layS_bd b1 (by decide +kernel) (by decide) (by decide) (by decide) (by decide)
  refine z_eq (ws' := MW κ Ad (-1) (fun _ => 0) (fun _ => 0) S2z (fun _ => 0) (fun _ => 0) (fun _ => 0) (fun _ => 0)) ?_ rfl rfl rfl rfl
  refine z_aload_n C dX6_init_405 0 rfl ?_
  refine z_bipush (v := nI 8) C dX6_init_406 (by decide) ?_
  refine z_iconst (v := nI 0) C dX6_init_408 (by decide) ?_
  refine z_iconst (v := nI 5) C dX6_init_409 (by decide) ?_
  refine z_iconst (v := nI 0) C dX6_init_410 (by decide) ?_
  refine zm_call C (mX6_lays l D κ Ad (-1) (fun _ => 0) (fun _ => 0) S2z (fun _ => 0) (fun _ => 0) (fun _ => 0) (fun _ => 0) 8 0 5 0 20 b2 (by decide +kernel)) gX6_init_X6_lays rfl rfl rfl hdX6_lays ⟨(Nat.le_of_ble_eq_true rfl), (Nat.le_of_ble_eq_true rfl)⟩ rfl (Nat.le_of_ble_eq_true rfl) dX6_init_411 ⟨(Nat.le_of_ble_eq_true rfl), (Nat.le_of_ble_eq_true rfl)⟩ ?_
  have b3 : Bd 20 S3z := layS_bd b2 (by decide +kernel) (by decide) (by decide) (by decide) (by decide)
  refine z_eq (ws' := MW κ Ad (-1) (fun _ => 0) (fun _ => 0) S3z (fun _ => 0) (fun _ => 0) (fun _ => 0) (fun _ => 0)) ?_ rfl rfl rfl rfl
  refine z_aload_n C dX6_init_414 0 rfl ?_
  refine z_iconst (v := nI 5) C dX6_init_415 (by decide) ?_
  refine z_bipush (v := nI 8) C dX6_init_416 (by decide) ?_
  refine z_iconst (v := nI 5) C dX6_init_418 (by decide) ?_
  refine z_iconst (v := nI 0) C dX6_init_419 (by decide) ?_
  refine zm_call C (mX6_lays l D κ Ad (-1) (fun _ => 0) (fun _ => 0) S3z (fun _ => 0) (fun _ => 0) (fun _ => 0) (fun _ => 0) 5 8 5 0 20 b3 (by decide +kernel)) gX6_init_X6_lays rfl rfl rfl hdX6_lays ⟨(Nat.le_of_ble_eq_true rfl), (Nat.le_of_ble_eq_true rfl)⟩ rfl (Nat.le_of_ble_eq_true rfl) dX6_init_420 ⟨(Nat.le_of_ble_eq_true rfl), (Nat.le_of_ble_eq_true rfl)⟩ ?_
  have b4 : Bd 20 S4z := layS_bd b3 (by decide +kernel) (by decide) (by decide) (by decide) (by decide)
  refine z_eq (ws' := MW κ Ad (-1) (fun _ => 0) (fun _ => 0) S4z (fun _ => 0) (fun _ => 0) (fun _ => 0) (fun _ => 0)) ?_ rfl rfl rfl rfl
  refine z_aload_n C dX6_init_423 0 rfl ?_
  refine z_iconst (v := nI 0) C dX6_init_424 (by decide) ?_
  refine z_iconst (v := nI 5) C dX6_init_425 (by decide) ?_
  refine z_iconst (v := nI 4) C dX6_init_426 (by decide) ?_
  refine zm_call C (mX6_sets l D κ Ad (-1) (fun _ => 0) (fun _ => 0) S4z (fun _ => 0) (fun _ => 0) (fun _ => 0) (fun _ => 0) 0 5 4 20 b4 (by decide +kernel)) gX6_init_X6_sets rfl rfl rfl hdX6_sets ⟨(Nat.le_of_ble_eq_true rfl), (Nat.le_of_ble_eq_true rfl)⟩ rfl (Nat.le_of_ble_eq_true rfl) dX6_init_427 ⟨(Nat.le_of_ble_eq_true rfl), (Nat.le_of_ble_eq_true rfl)⟩ ?_
  have b5 : Bd 20 S5z := setS_bd b4 (by decide +kernel) (by decide +kernel) (by decide) (by decide)
  refine z_eq (ws' := MW κ Ad (-1) (fun _ => 0) (fun _ => 0) S5z (fun _ => 0) (fun _ => 0) (fun _ => 0) (fun _ => 0)) ?_ rfl rfl rfl rfl
  refine z_aload_n C dX6_init_430 0 rfl ?_
  refine z_iconst (v := nI 3) C dX6_init_431 (by decide) ?_
  refine z_bipush (v := nI 8) C dX6_init_432 (by decide) ?_
  refine z_iconst (v := nI 5) C dX6_init_434 (by decide) ?_
  refine zm_call C (mX6_sets l D κ Ad (-1) (fun _ => 0) (fun _ => 0) S5z (fun _ => 0) (fun _ => 0) (fun _ => 0) (fun _ => 0) 3 8 5 20 b5 (by decide +kernel)) gX6_init_X6_sets rfl rfl rfl hdX6_sets ⟨(Nat.le_of_ble_eq_true rfl), (Nat.le_of_ble_eq_true rfl)⟩ rfl (Nat.le_of_ble_eq_true rfl) dX6_init_435 ⟨(Nat.le_of_ble_eq_true rfl), (Nat.le_of_ble_eq_true rfl)⟩ ?_
  have b6 : Bd 20 S6z := setS_bd b5 (by decide +kernel) (by decide +kernel) (by decide) (by decide)
  refine z_eq (ws' := MW κ Ad (-1) (fun _ => 0) (fun _ => 0) S6z (fun _ => 0) (fun _ => 0) (fun _ => 0) (fun _ => 0)) ?_ rfl rfl rfl rfl
  refine z_aload_n C dX6_init_438 0 rfl ?_
  refine zm_get_now C hin (show Cond.fieldLink RX6 13 "PeatRailwayModel" "now" "[I" ∈ wsX6_init from by decide +kernel) dX6_init_439 ?_
  refine z_iconst (v := nI 1) C dX6_init_442 (by decide) ?_
  refine zs_call C (mX6_b l D κ 1) gX6_init_X6_b rfl rfl rfl hdX6_b ⟨(Nat.le_of_ble_eq_true rfl), (Nat.le_of_ble_eq_true rfl)⟩ rfl (Nat.le_of_ble_eq_true rfl) dX6_init_443 ⟨(Nat.le_of_ble_eq_true rfl), (Nat.le_of_ble_eq_true rfl)⟩ ?_
  refine z_iconst (v := nI 4) C dX6_init_446 (by decide) ?_
  refine zn_iadd C dX6_init_447 ?_
  refine z_iconst (v := nI 1) C dX6_init_448 (by decide) ?_
  refine zm_ast_now C (by decide) dX6_init_449 ?_
  refine z_eq (ws' := MW κ Ad (-1) (fun _ => 0) (fun _ => 0) S7z (fun _ => 0) (fun _ => 0) (fun _ => 0) (fun _ => 0)) ?_ rfl rfl rfl rfl
  have b7 : Bd 20 S7z := b6.up (by decide) (by decide) (fun t ht q => by omega)
  refine z_aload_n C dX6_init_450 0 rfl ?_
  refine z_iconst (v := nI 3) C dX6_init_451 (by decide) ?_
  refine zm_call C (mX6_passes l D κ Ad (-1) (fun _ => 0) (fun _ => 0) S7z (fun _ => 0) (fun _ => 0) (fun _ => 0) (fun _ => 0) 20 3 b7 (by decide)) gX6_init_X6_passes rfl rfl rfl hdX6_passes ⟨(Nat.le_of_ble_eq_true rfl), (Nat.le_of_ble_eq_true rfl)⟩ rfl (Nat.le_of_ble_eq_true rfl) dX6_init_452 ⟨(Nat.le_of_ble_eq_true rfl), (Nat.le_of_ble_eq_true rfl)⟩ ?_
  refine z_istore_n C [(1, .int (nI (psE 3 S7z))), (0, .ref (Ad 0))] dX6_init_455 (by decide) rfl ?_
  exact z_vret C hr hk Ad rfl hA0.symm (List.Perm.of_eq rfl) dX6_init_456 (Nat.le_of_ble_eq_true rfl) (Nat.le_of_ble_eq_true rfl)
end M17
