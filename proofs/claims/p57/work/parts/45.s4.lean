section S4
section ACC
theorem nI_sur (y : Int32) : ∃ z, nI z = y := ⟨y.toUInt32.toNat, by
  show Int32.ofNat _ = _
  apply Int32.toBitVec_inj.mp
  rw [Int32.toBitVec_ofNat']
  show BitVec.ofNat 32 y.toUInt32.toBitVec.toNat = _
  rw [BitVec.ofNat_toNat, BitVec.setWidth_eq]
  rfl⟩
theorem Rep_cp {f : Nat → Nat → Nat} {σ p : Nat → Nat} {M : Nat} (h : Rep f σ) (hv : Inv M σ) (hp : ∀ j, j < 10 → f 8 j < 2 → p j = f 8 j) : Rep (upA f 8 p) σ := by
  have h10 := hv.n1
  refine ⟨⟨h.1.1, fun b hb => ?_, h.1.2.2.1, h.1.2.2.2⟩, h.2⟩
  have h9 := h.1.2.1 b hb
  have hb9 := hv.blk hb
  refine ⟨h9.1, h9.2.1, h9.2.2.1, ?_, h9.2.2.2.2⟩
  show p b = _
  rw [hp b (by omega) (by omega)]
  exact h9.2.2.2.1
end ACC
section SR2
variable {p : Program} {l : Launch} {e : Env} {R : Room} {s : State} {m : MethodId} {args : Array Value} {below : List Frame} {meth : Method} {c : Code} {cc : ByteArray} {nL : Nat} {Ts : List Cond} {own : String} {D : va_G} {tys : List (ClassId × FieldType)} {A : Nat → Prop} {cells slots : Nat} {Q : State → Prop} {ws : va_W} {lv : List (Nat × Value)} {pc : Nat} {st : List Value}
variable {κ : Nat → ClassId} {Sa Sb : Nat → Nat} {g f : Nat → Nat → Nat} {Y : va_W}
theorem z_copyi (C : zC p s m args c cc nL Ts own D tys A) {idx : Nat} (hlk : Cond.methodLink own idx arraycopyName ∈ Ts) (h1 : Cond.native arraycopyName ∈ Ts) (h2 : Cond.static arraycopyName ∈ Ts) (h3 : Cond.initialized "java/lang/System" ∈ Ts) (q0 q1 t0 : Nat) {a a0 : Nat} {c0 c1 : ClassId} {n : Nat} {f g : Nat → Int32} (ha0 : ws[q0]? = some (a0, .inl (c0, n, .inl f))) (ha1 : ws[q1]? = some (a, .inl (c1, n, .inl g))) (ht0 : tys[t0]? = some (c0, .int)) (ht1 : tys[t0]? = some (c1, .int)) (hn : n < 2147483648) (hf : 1 ≤ R.frames ∧ 26 ≤ R.locals) (hroom : (st.map fun v => v.category).sum ≤ 8) (hdg : decode cc pc = .ok (.invokestatic idx, 3))
    (k : ∀ h : Nat → Int32, (∀ j, j < n → h j = f j) → zW p l e R s m args below meth c nL D A cells slots Q (ws.set q1 (a, .inl (c1, n, .inl h))) lv (pc + 3) st) : zW p l e R s m args below meth c nL D A cells slots Q ws lv pc (.int (nI n) :: .int (nI 0) :: .ref a :: .int (nI 0) :: .ref a0 :: st) := by
  intro H locs ls hP hD hS hl
  obtain ⟨hx, hb2, hml, hown, hts, hK, hA⟩ := C
  have e0 : (nI 0).toNatClampNeg = 0 := nI_clamp (by decide)
  have en : (nI n).toNatClampNeg = n := nI_clamp hn
  refine va_copyi hx hb2 (hml.trans hl.1.symm) hown (hts _ hlk) (hts _ h1) (hts _ h2) (hts _ h3) hK hP hD hS q0 q1 t0 t0 ha0 ha1 ht0 ht1 rfl (by decide) (by decide) (fun q => absurd ((zq_lt hn (by decide : 0 < 2147483648)).mp q) (Nat.not_lt_zero _)) (by rw [e0, en]; omega) (by rw [e0, en]; omega) (fun i _ => rfl) hf.1 (by have e9 : nativeFrameWords "java/lang/System" "arraycopy" 5 = 7 := rfl; omega) hdg ?_
  rw [e0, en]
  exact fun H1 locs1 hP1 hD1 hS1 => k _ (fun j hj => by simp only [va_cpy]; rw [if_pos (by omega), Nat.zero_add, Nat.sub_zero]) H1 locs1 ls hP1 hD1 hS1 hl
theorem zs2_get_tick (C : zC p s m args c cc nL Ts own D (zTy κ) A) (hin : ∀ w ∈ wsX40, w ∈ Ts) {idx : Nat} (hlk : Cond.fieldLink own idx "PeatRailway$State" "tick" "I" ∈ Ts) (hdg : decode cc pc = .ok (.getfield idx, 3)) (k : zW p l e R s m args below meth c nL D A cells slots Q (SW κ Sa g ++ (SW κ Sb f ++ Y)) lv (pc + 3) (.int (nI (f 0 0)) :: st)) : zW p l e R s m args below meth c nL D A cells slots Q (SW κ Sa g ++ (SW κ Sb f ++ Y)) lv pc (.ref (Sb 0) :: st) := z_get C hin 13 rfl rfl 0 (by decide) hlk rfl hdg k
theorem zs2_get_blockCount (C : zC p s m args c cc nL Ts own D (zTy κ) A) (hin : ∀ w ∈ wsX40, w ∈ Ts) {idx : Nat} (hlk : Cond.fieldLink own idx "PeatRailway$State" "blockCount" "I" ∈ Ts) (hdg : decode cc pc = .ok (.getfield idx, 3)) (k : zW p l e R s m args below meth c nL D A cells slots Q (SW κ Sa g ++ (SW κ Sb f ++ Y)) lv (pc + 3) (.int (nI (f 1 0)) :: st)) : zW p l e R s m args below meth c nL D A cells slots Q (SW κ Sa g ++ (SW κ Sb f ++ Y)) lv pc (.ref (Sb 0) :: st) := z_get C hin 13 rfl rfl 1 (by decide) hlk rfl hdg k
theorem zs2_get_trainCount (C : zC p s m args c cc nL Ts own D (zTy κ) A) (hin : ∀ w ∈ wsX40, w ∈ Ts) {idx : Nat} (hlk : Cond.fieldLink own idx "PeatRailway$State" "trainCount" "I" ∈ Ts) (hdg : decode cc pc = .ok (.getfield idx, 3)) (k : zW p l e R s m args below meth c nL D A cells slots Q (SW κ Sa g ++ (SW κ Sb f ++ Y)) lv (pc + 3) (.int (nI (f 2 0)) :: st)) : zW p l e R s m args below meth c nL D A cells slots Q (SW κ Sa g ++ (SW κ Sb f ++ Y)) lv pc (.ref (Sb 0) :: st) := z_get C hin 13 rfl rfl 2 (by decide) hlk rfl hdg k
theorem zs2_get_removed (C : zC p s m args c cc nL Ts own D (zTy κ) A) (hin : ∀ w ∈ wsX40, w ∈ Ts) {idx : Nat} (hlk : Cond.fieldLink own idx "PeatRailway$State" "removed" "I" ∈ Ts) (hdg : decode cc pc = .ok (.getfield idx, 3)) (k : zW p l e R s m args below meth c nL D A cells slots Q (SW κ Sa g ++ (SW κ Sb f ++ Y)) lv (pc + 3) (.int (nI (f 3 0)) :: st)) : zW p l e R s m args below meth c nL D A cells slots Q (SW κ Sa g ++ (SW κ Sb f ++ Y)) lv pc (.ref (Sb 0) :: st) := z_get C hin 13 rfl rfl 3 (by decide) hlk rfl hdg k
theorem zs2_get_added (C : zC p s m args c cc nL Ts own D (zTy κ) A) (hin : ∀ w ∈ wsX40, w ∈ Ts) {idx : Nat} (hlk : Cond.fieldLink own idx "PeatRailway$State" "added" "I" ∈ Ts) (hdg : decode cc pc = .ok (.getfield idx, 3)) (k : zW p l e R s m args below meth c nL D A cells slots Q (SW κ Sa g ++ (SW κ Sb f ++ Y)) lv (pc + 3) (.int (nI (f 4 0)) :: st)) : zW p l e R s m args below meth c nL D A cells slots Q (SW κ Sa g ++ (SW κ Sb f ++ Y)) lv pc (.ref (Sb 0) :: st) := z_get C hin 13 rfl rfl 4 (by decide) hlk rfl hdg k
theorem zs2_get_length (C : zC p s m args c cc nL Ts own D (zTy κ) A) (hin : ∀ w ∈ wsX40, w ∈ Ts) {idx : Nat} (hlk : Cond.fieldLink own idx "PeatRailway$State" "length" "[I" ∈ Ts) (hdg : decode cc pc = .ok (.getfield idx, 3)) (k : zW p l e R s m args below meth c nL D A cells slots Q (SW κ Sa g ++ (SW κ Sb f ++ Y)) lv (pc + 3) (.ref (Sb 5) :: st)) : zW p l e R s m args below meth c nL D A cells slots Q (SW κ Sa g ++ (SW κ Sb f ++ Y)) lv pc (.ref (Sb 0) :: st) := z_get C hin 13 rfl rfl 5 (by decide) hlk rfl hdg k
theorem zs2_copy_length (C : zC p s m args c cc nL Ts own D (zTy κ) A) {idx : Nat} (hlk : Cond.methodLink own idx arraycopyName ∈ Ts) (h1 : Cond.native arraycopyName ∈ Ts) (h2 : Cond.static arraycopyName ∈ Ts) (h3 : Cond.initialized "java/lang/System" ∈ Ts) (hf : 1 ≤ R.frames ∧ 26 ≤ R.locals) (hroom : (st.map fun v => v.category).sum ≤ 8) (hdg : decode cc pc = .ok (.invokestatic idx, 3)) (k : zW p l e R s m args below meth c nL D A cells slots Q (SW κ Sa (upA g 5 (f 5)) ++ (SW κ Sb f ++ Y)) lv (pc + 3) st) : zW p l e R s m args below meth c nL D A cells slots Q (SW κ Sa g ++ (SW κ Sb f ++ Y)) lv pc (.int (nI 10) :: .int (nI 0) :: .ref (Sa 5) :: .int (nI 0) :: .ref (Sb 5) :: st) :=
  z_copyi C hlk h1 h2 h3 14 1 0 rfl rfl rfl rfl (by decide) hf hroom hdg (fun h hh => z_row (X := (SW κ Sa g ++ (SW κ Sb f ++ Y)).take 1) (Y := (SW κ Sa g ++ (SW κ Sb f ++ Y)).drop 2) (nF (f 5)) hh k)
theorem zs2_get_depth (C : zC p s m args c cc nL Ts own D (zTy κ) A) (hin : ∀ w ∈ wsX40, w ∈ Ts) {idx : Nat} (hlk : Cond.fieldLink own idx "PeatRailway$State" "depth" "[I" ∈ Ts) (hdg : decode cc pc = .ok (.getfield idx, 3)) (k : zW p l e R s m args below meth c nL D A cells slots Q (SW κ Sa g ++ (SW κ Sb f ++ Y)) lv (pc + 3) (.ref (Sb 6) :: st)) : zW p l e R s m args below meth c nL D A cells slots Q (SW κ Sa g ++ (SW κ Sb f ++ Y)) lv pc (.ref (Sb 0) :: st) := z_get C hin 13 rfl rfl 6 (by decide) hlk rfl hdg k
theorem zs2_copy_depth (C : zC p s m args c cc nL Ts own D (zTy κ) A) {idx : Nat} (hlk : Cond.methodLink own idx arraycopyName ∈ Ts) (h1 : Cond.native arraycopyName ∈ Ts) (h2 : Cond.static arraycopyName ∈ Ts) (h3 : Cond.initialized "java/lang/System" ∈ Ts) (hf : 1 ≤ R.frames ∧ 26 ≤ R.locals) (hroom : (st.map fun v => v.category).sum ≤ 8) (hdg : decode cc pc = .ok (.invokestatic idx, 3)) (k : zW p l e R s m args below meth c nL D A cells slots Q (SW κ Sa (upA g 6 (f 6)) ++ (SW κ Sb f ++ Y)) lv (pc + 3) st) : zW p l e R s m args below meth c nL D A cells slots Q (SW κ Sa g ++ (SW κ Sb f ++ Y)) lv pc (.int (nI 10) :: .int (nI 0) :: .ref (Sa 6) :: .int (nI 0) :: .ref (Sb 6) :: st) :=
  z_copyi C hlk h1 h2 h3 15 2 0 rfl rfl rfl rfl (by decide) hf hroom hdg (fun h hh => z_row (X := (SW κ Sa g ++ (SW κ Sb f ++ Y)).take 2) (Y := (SW κ Sa g ++ (SW κ Sb f ++ Y)).drop 3) (nF (f 6)) hh k)
theorem zs2_get_bendLimit (C : zC p s m args c cc nL Ts own D (zTy κ) A) (hin : ∀ w ∈ wsX40, w ∈ Ts) {idx : Nat} (hlk : Cond.fieldLink own idx "PeatRailway$State" "bendLimit" "[I" ∈ Ts) (hdg : decode cc pc = .ok (.getfield idx, 3)) (k : zW p l e R s m args below meth c nL D A cells slots Q (SW κ Sa g ++ (SW κ Sb f ++ Y)) lv (pc + 3) (.ref (Sb 7) :: st)) : zW p l e R s m args below meth c nL D A cells slots Q (SW κ Sa g ++ (SW κ Sb f ++ Y)) lv pc (.ref (Sb 0) :: st) := z_get C hin 13 rfl rfl 7 (by decide) hlk rfl hdg k
theorem zs2_copy_bendLimit (C : zC p s m args c cc nL Ts own D (zTy κ) A) {idx : Nat} (hlk : Cond.methodLink own idx arraycopyName ∈ Ts) (h1 : Cond.native arraycopyName ∈ Ts) (h2 : Cond.static arraycopyName ∈ Ts) (h3 : Cond.initialized "java/lang/System" ∈ Ts) (hf : 1 ≤ R.frames ∧ 26 ≤ R.locals) (hroom : (st.map fun v => v.category).sum ≤ 8) (hdg : decode cc pc = .ok (.invokestatic idx, 3)) (k : zW p l e R s m args below meth c nL D A cells slots Q (SW κ Sa (upA g 7 (f 7)) ++ (SW κ Sb f ++ Y)) lv (pc + 3) st) : zW p l e R s m args below meth c nL D A cells slots Q (SW κ Sa g ++ (SW κ Sb f ++ Y)) lv pc (.int (nI 10) :: .int (nI 0) :: .ref (Sa 7) :: .int (nI 0) :: .ref (Sb 7) :: st) :=
  z_copyi C hlk h1 h2 h3 16 3 0 rfl rfl rfl rfl (by decide) hf hroom hdg (fun h hh => z_row (X := (SW κ Sa g ++ (SW κ Sb f ++ Y)).take 3) (Y := (SW κ Sa g ++ (SW κ Sb f ++ Y)).drop 4) (nF (f 7)) hh k)
theorem zs2_get_clear (C : zC p s m args c cc nL Ts own D (zTy κ) A) (hin : ∀ w ∈ wsX40, w ∈ Ts) {idx : Nat} (hlk : Cond.fieldLink own idx "PeatRailway$State" "clear" "[Z" ∈ Ts) (hdg : decode cc pc = .ok (.getfield idx, 3)) (k : zW p l e R s m args below meth c nL D A cells slots Q (SW κ Sa g ++ (SW κ Sb f ++ Y)) lv (pc + 3) (.ref (Sb 8) :: st)) : zW p l e R s m args below meth c nL D A cells slots Q (SW κ Sa g ++ (SW κ Sb f ++ Y)) lv pc (.ref (Sb 0) :: st) := z_get C hin 13 rfl rfl 8 (by decide) hlk rfl hdg k
theorem zs2_ald_clear (C : zC p s m args c cc nL Ts own D (zTy κ) A) {i : Nat} (hi : i < 10) (hdg : decode cc pc = .ok (.baload, 1)) (k : zW p l e R s m args below meth c nL D A cells slots Q (SW κ Sa g ++ (SW κ Sb f ++ Y)) lv (pc + 1) (.int (nI (f 8 i)) :: st)) : zW p l e R s m args below meth c nL D A cells slots Q (SW κ Sa g ++ (SW κ Sb f ++ Y)) lv pc (.int (nI i) :: .ref (Sb 8) :: st) := z_zald C 17 2 rfl rfl hi (by decide) hdg k
theorem zs2_ast_clear (C : zC p s m args c cc nL Ts own D (zTy κ) A) {i x : Nat} (hi : i < 10) (hdg : decode cc pc = .ok (.bastore, 1)) (k : ∀ z, (x < 2 → z = x) → zW p l e R s m args below meth c nL D A cells slots Q (SW κ Sa (up2 g 8 i z) ++ Y) lv (pc + 1) st) : zW p l e R s m args below meth c nL D A cells slots Q (SW κ Sa g ++ Y) lv pc (.int (nI x) :: .int (nI i) :: .ref (Sa 8) :: st) := by
  obtain ⟨z, hz⟩ : ∃ z, nI z = vp_nar .boolean (nI x) ∧ (x < 2 → z = x) := by
    by_cases hx : x < 2
    · exact ⟨x, (ni_zar hx).symm, fun _ => rfl⟩
    · obtain ⟨z, hz⟩ := nI_sur (vp_nar .boolean (nI x))
      exact ⟨z, hz, fun h => absurd h hx⟩
  exact z_zast C 4 2 rfl rfl hi (by decide) hdg _ (by rw [← hz.1, nF_up]; rfl) (k z hz.2)
theorem zs2_get_lost (C : zC p s m args c cc nL Ts own D (zTy κ) A) (hin : ∀ w ∈ wsX40, w ∈ Ts) {idx : Nat} (hlk : Cond.fieldLink own idx "PeatRailway$State" "lost" "[I" ∈ Ts) (hdg : decode cc pc = .ok (.getfield idx, 3)) (k : zW p l e R s m args below meth c nL D A cells slots Q (SW κ Sa g ++ (SW κ Sb f ++ Y)) lv (pc + 3) (.ref (Sb 9) :: st)) : zW p l e R s m args below meth c nL D A cells slots Q (SW κ Sa g ++ (SW κ Sb f ++ Y)) lv pc (.ref (Sb 0) :: st) := z_get C hin 13 rfl rfl 9 (by decide) hlk rfl hdg k
theorem zs2_copy_lost (C : zC p s m args c cc nL Ts own D (zTy κ) A) {idx : Nat} (hlk : Cond.methodLink own idx arraycopyName ∈ Ts) (h1 : Cond.native arraycopyName ∈ Ts) (h2 : Cond.static arraycopyName ∈ Ts) (h3 : Cond.initialized "java/lang/System" ∈ Ts) (hf : 1 ≤ R.frames ∧ 26 ≤ R.locals) (hroom : (st.map fun v => v.category).sum ≤ 8) (hdg : decode cc pc = .ok (.invokestatic idx, 3)) (k : zW p l e R s m args below meth c nL D A cells slots Q (SW κ Sa (upA g 9 (f 9)) ++ (SW κ Sb f ++ Y)) lv (pc + 3) st) : zW p l e R s m args below meth c nL D A cells slots Q (SW κ Sa g ++ (SW κ Sb f ++ Y)) lv pc (.int (nI 10) :: .int (nI 0) :: .ref (Sa 9) :: .int (nI 0) :: .ref (Sb 9) :: st) :=
  z_copyi C hlk h1 h2 h3 18 5 0 rfl rfl rfl rfl (by decide) hf hroom hdg (fun h hh => z_row (X := (SW κ Sa g ++ (SW κ Sb f ++ Y)).take 5) (Y := (SW κ Sa g ++ (SW κ Sb f ++ Y)).drop 6) (nF (f 9)) hh k)
theorem zs2_get_occupant (C : zC p s m args c cc nL Ts own D (zTy κ) A) (hin : ∀ w ∈ wsX40, w ∈ Ts) {idx : Nat} (hlk : Cond.fieldLink own idx "PeatRailway$State" "occupant" "[I" ∈ Ts) (hdg : decode cc pc = .ok (.getfield idx, 3)) (k : zW p l e R s m args below meth c nL D A cells slots Q (SW κ Sa g ++ (SW κ Sb f ++ Y)) lv (pc + 3) (.ref (Sb 10) :: st)) : zW p l e R s m args below meth c nL D A cells slots Q (SW κ Sa g ++ (SW κ Sb f ++ Y)) lv pc (.ref (Sb 0) :: st) := z_get C hin 13 rfl rfl 10 (by decide) hlk rfl hdg k
theorem zs2_copy_occupant (C : zC p s m args c cc nL Ts own D (zTy κ) A) {idx : Nat} (hlk : Cond.methodLink own idx arraycopyName ∈ Ts) (h1 : Cond.native arraycopyName ∈ Ts) (h2 : Cond.static arraycopyName ∈ Ts) (h3 : Cond.initialized "java/lang/System" ∈ Ts) (hf : 1 ≤ R.frames ∧ 26 ≤ R.locals) (hroom : (st.map fun v => v.category).sum ≤ 8) (hdg : decode cc pc = .ok (.invokestatic idx, 3)) (k : zW p l e R s m args below meth c nL D A cells slots Q (SW κ Sa (upA g 10 (f 10)) ++ (SW κ Sb f ++ Y)) lv (pc + 3) st) : zW p l e R s m args below meth c nL D A cells slots Q (SW κ Sa g ++ (SW κ Sb f ++ Y)) lv pc (.int (nI 10) :: .int (nI 0) :: .ref (Sa 10) :: .int (nI 0) :: .ref (Sb 10) :: st) :=
  z_copyi C hlk h1 h2 h3 19 6 0 rfl rfl rfl rfl (by decide) hf hroom hdg (fun h hh => z_row (X := (SW κ Sa g ++ (SW κ Sb f ++ Y)).take 6) (Y := (SW κ Sa g ++ (SW κ Sb f ++ Y)).drop 7) (tF (f 10)) hh k)
theorem zs2_get_place (C : zC p s m args c cc nL Ts own D (zTy κ) A) (hin : ∀ w ∈ wsX40, w ∈ Ts) {idx : Nat} (hlk : Cond.fieldLink own idx "PeatRailway$State" "place" "[I" ∈ Ts) (hdg : decode cc pc = .ok (.getfield idx, 3)) (k : zW p l e R s m args below meth c nL D A cells slots Q (SW κ Sa g ++ (SW κ Sb f ++ Y)) lv (pc + 3) (.ref (Sb 11) :: st)) : zW p l e R s m args below meth c nL D A cells slots Q (SW κ Sa g ++ (SW κ Sb f ++ Y)) lv pc (.ref (Sb 0) :: st) := z_get C hin 13 rfl rfl 11 (by decide) hlk rfl hdg k
theorem zs2_copy_place (C : zC p s m args c cc nL Ts own D (zTy κ) A) {idx : Nat} (hlk : Cond.methodLink own idx arraycopyName ∈ Ts) (h1 : Cond.native arraycopyName ∈ Ts) (h2 : Cond.static arraycopyName ∈ Ts) (h3 : Cond.initialized "java/lang/System" ∈ Ts) (hf : 1 ≤ R.frames ∧ 26 ≤ R.locals) (hroom : (st.map fun v => v.category).sum ≤ 8) (hdg : decode cc pc = .ok (.invokestatic idx, 3)) (k : zW p l e R s m args below meth c nL D A cells slots Q (SW κ Sa (upA g 11 (f 11)) ++ (SW κ Sb f ++ Y)) lv (pc + 3) st) : zW p l e R s m args below meth c nL D A cells slots Q (SW κ Sa g ++ (SW κ Sb f ++ Y)) lv pc (.int (nI 5) :: .int (nI 0) :: .ref (Sa 11) :: .int (nI 0) :: .ref (Sb 11) :: st) :=
  z_copyi C hlk h1 h2 h3 20 7 0 rfl rfl rfl rfl (by decide) hf hroom hdg (fun h hh => z_row (X := (SW κ Sa g ++ (SW κ Sb f ++ Y)).take 7) (Y := (SW κ Sa g ++ (SW κ Sb f ++ Y)).drop 8) (nF (f 11)) hh k)
theorem zs2_get_position (C : zC p s m args c cc nL Ts own D (zTy κ) A) (hin : ∀ w ∈ wsX40, w ∈ Ts) {idx : Nat} (hlk : Cond.fieldLink own idx "PeatRailway$State" "position" "[I" ∈ Ts) (hdg : decode cc pc = .ok (.getfield idx, 3)) (k : zW p l e R s m args below meth c nL D A cells slots Q (SW κ Sa g ++ (SW κ Sb f ++ Y)) lv (pc + 3) (.ref (Sb 12) :: st)) : zW p l e R s m args below meth c nL D A cells slots Q (SW κ Sa g ++ (SW κ Sb f ++ Y)) lv pc (.ref (Sb 0) :: st) := z_get C hin 13 rfl rfl 12 (by decide) hlk rfl hdg k
theorem zs2_copy_position (C : zC p s m args c cc nL Ts own D (zTy κ) A) {idx : Nat} (hlk : Cond.methodLink own idx arraycopyName ∈ Ts) (h1 : Cond.native arraycopyName ∈ Ts) (h2 : Cond.static arraycopyName ∈ Ts) (h3 : Cond.initialized "java/lang/System" ∈ Ts) (hf : 1 ≤ R.frames ∧ 26 ≤ R.locals) (hroom : (st.map fun v => v.category).sum ≤ 8) (hdg : decode cc pc = .ok (.invokestatic idx, 3)) (k : zW p l e R s m args below meth c nL D A cells slots Q (SW κ Sa (upA g 12 (f 12)) ++ (SW κ Sb f ++ Y)) lv (pc + 3) st) : zW p l e R s m args below meth c nL D A cells slots Q (SW κ Sa g ++ (SW κ Sb f ++ Y)) lv pc (.int (nI 5) :: .int (nI 0) :: .ref (Sa 12) :: .int (nI 0) :: .ref (Sb 12) :: st) :=
  z_copyi C hlk h1 h2 h3 21 8 0 rfl rfl rfl rfl (by decide) hf hroom hdg (fun h hh => z_row (X := (SW κ Sa g ++ (SW κ Sb f ++ Y)).take 8) (Y := (SW κ Sa g ++ (SW κ Sb f ++ Y)).drop 9) (nF (f 12)) hh k)
theorem zs2_get_wagons (C : zC p s m args c cc nL Ts own D (zTy κ) A) (hin : ∀ w ∈ wsX40, w ∈ Ts) {idx : Nat} (hlk : Cond.fieldLink own idx "PeatRailway$State" "wagons" "[I" ∈ Ts) (hdg : decode cc pc = .ok (.getfield idx, 3)) (k : zW p l e R s m args below meth c nL D A cells slots Q (SW κ Sa g ++ (SW κ Sb f ++ Y)) lv (pc + 3) (.ref (Sb 13) :: st)) : zW p l e R s m args below meth c nL D A cells slots Q (SW κ Sa g ++ (SW κ Sb f ++ Y)) lv pc (.ref (Sb 0) :: st) := z_get C hin 13 rfl rfl 13 (by decide) hlk rfl hdg k
theorem zs2_copy_wagons (C : zC p s m args c cc nL Ts own D (zTy κ) A) {idx : Nat} (hlk : Cond.methodLink own idx arraycopyName ∈ Ts) (h1 : Cond.native arraycopyName ∈ Ts) (h2 : Cond.static arraycopyName ∈ Ts) (h3 : Cond.initialized "java/lang/System" ∈ Ts) (hf : 1 ≤ R.frames ∧ 26 ≤ R.locals) (hroom : (st.map fun v => v.category).sum ≤ 8) (hdg : decode cc pc = .ok (.invokestatic idx, 3)) (k : zW p l e R s m args below meth c nL D A cells slots Q (SW κ Sa (upA g 13 (f 13)) ++ (SW κ Sb f ++ Y)) lv (pc + 3) st) : zW p l e R s m args below meth c nL D A cells slots Q (SW κ Sa g ++ (SW κ Sb f ++ Y)) lv pc (.int (nI 5) :: .int (nI 0) :: .ref (Sa 13) :: .int (nI 0) :: .ref (Sb 13) :: st) :=
  z_copyi C hlk h1 h2 h3 22 9 0 rfl rfl rfl rfl (by decide) hf hroom hdg (fun h hh => z_row (X := (SW κ Sa g ++ (SW κ Sb f ++ Y)).take 9) (Y := (SW κ Sa g ++ (SW κ Sb f ++ Y)).drop 10) (nF (f 13)) hh k)
theorem zs2_get_topSpeed (C : zC p s m args c cc nL Ts own D (zTy κ) A) (hin : ∀ w ∈ wsX40, w ∈ Ts) {idx : Nat} (hlk : Cond.fieldLink own idx "PeatRailway$State" "topSpeed" "[I" ∈ Ts) (hdg : decode cc pc = .ok (.getfield idx, 3)) (k : zW p l e R s m args below meth c nL D A cells slots Q (SW κ Sa g ++ (SW κ Sb f ++ Y)) lv (pc + 3) (.ref (Sb 14) :: st)) : zW p l e R s m args below meth c nL D A cells slots Q (SW κ Sa g ++ (SW κ Sb f ++ Y)) lv pc (.ref (Sb 0) :: st) := z_get C hin 13 rfl rfl 14 (by decide) hlk rfl hdg k
theorem zs2_copy_topSpeed (C : zC p s m args c cc nL Ts own D (zTy κ) A) {idx : Nat} (hlk : Cond.methodLink own idx arraycopyName ∈ Ts) (h1 : Cond.native arraycopyName ∈ Ts) (h2 : Cond.static arraycopyName ∈ Ts) (h3 : Cond.initialized "java/lang/System" ∈ Ts) (hf : 1 ≤ R.frames ∧ 26 ≤ R.locals) (hroom : (st.map fun v => v.category).sum ≤ 8) (hdg : decode cc pc = .ok (.invokestatic idx, 3)) (k : zW p l e R s m args below meth c nL D A cells slots Q (SW κ Sa (upA g 14 (f 14)) ++ (SW κ Sb f ++ Y)) lv (pc + 3) st) : zW p l e R s m args below meth c nL D A cells slots Q (SW κ Sa g ++ (SW κ Sb f ++ Y)) lv pc (.int (nI 5) :: .int (nI 0) :: .ref (Sa 14) :: .int (nI 0) :: .ref (Sb 14) :: st) :=
  z_copyi C hlk h1 h2 h3 23 10 0 rfl rfl rfl rfl (by decide) hf hroom hdg (fun h hh => z_row (X := (SW κ Sa g ++ (SW κ Sb f ++ Y)).take 10) (Y := (SW κ Sa g ++ (SW κ Sb f ++ Y)).drop 11) (nF (f 14)) hh k)
theorem zs2_get_waits (C : zC p s m args c cc nL Ts own D (zTy κ) A) (hin : ∀ w ∈ wsX40, w ∈ Ts) {idx : Nat} (hlk : Cond.fieldLink own idx "PeatRailway$State" "waits" "[I" ∈ Ts) (hdg : decode cc pc = .ok (.getfield idx, 3)) (k : zW p l e R s m args below meth c nL D A cells slots Q (SW κ Sa g ++ (SW κ Sb f ++ Y)) lv (pc + 3) (.ref (Sb 15) :: st)) : zW p l e R s m args below meth c nL D A cells slots Q (SW κ Sa g ++ (SW κ Sb f ++ Y)) lv pc (.ref (Sb 0) :: st) := z_get C hin 13 rfl rfl 15 (by decide) hlk rfl hdg k
theorem zs2_copy_waits (C : zC p s m args c cc nL Ts own D (zTy κ) A) {idx : Nat} (hlk : Cond.methodLink own idx arraycopyName ∈ Ts) (h1 : Cond.native arraycopyName ∈ Ts) (h2 : Cond.static arraycopyName ∈ Ts) (h3 : Cond.initialized "java/lang/System" ∈ Ts) (hf : 1 ≤ R.frames ∧ 26 ≤ R.locals) (hroom : (st.map fun v => v.category).sum ≤ 8) (hdg : decode cc pc = .ok (.invokestatic idx, 3)) (k : zW p l e R s m args below meth c nL D A cells slots Q (SW κ Sa (upA g 15 (f 15)) ++ (SW κ Sb f ++ Y)) lv (pc + 3) st) : zW p l e R s m args below meth c nL D A cells slots Q (SW κ Sa g ++ (SW κ Sb f ++ Y)) lv pc (.int (nI 5) :: .int (nI 0) :: .ref (Sa 15) :: .int (nI 0) :: .ref (Sb 15) :: st) :=
  z_copyi C hlk h1 h2 h3 24 11 0 rfl rfl rfl rfl (by decide) hf hroom hdg (fun h hh => z_row (X := (SW κ Sa g ++ (SW κ Sb f ++ Y)).take 11) (Y := (SW κ Sa g ++ (SW κ Sb f ++ Y)).drop 12) (nF (f 15)) hh k)
theorem zs2_get_passages (C : zC p s m args c cc nL Ts own D (zTy κ) A) (hin : ∀ w ∈ wsX40, w ∈ Ts) {idx : Nat} (hlk : Cond.fieldLink own idx "PeatRailway$State" "passages" "[I" ∈ Ts) (hdg : decode cc pc = .ok (.getfield idx, 3)) (k : zW p l e R s m args below meth c nL D A cells slots Q (SW κ Sa g ++ (SW κ Sb f ++ Y)) lv (pc + 3) (.ref (Sb 16) :: st)) : zW p l e R s m args below meth c nL D A cells slots Q (SW κ Sa g ++ (SW κ Sb f ++ Y)) lv pc (.ref (Sb 0) :: st) := z_get C hin 13 rfl rfl 16 (by decide) hlk rfl hdg k
theorem zs2_copy_passages (C : zC p s m args c cc nL Ts own D (zTy κ) A) {idx : Nat} (hlk : Cond.methodLink own idx arraycopyName ∈ Ts) (h1 : Cond.native arraycopyName ∈ Ts) (h2 : Cond.static arraycopyName ∈ Ts) (h3 : Cond.initialized "java/lang/System" ∈ Ts) (hf : 1 ≤ R.frames ∧ 26 ≤ R.locals) (hroom : (st.map fun v => v.category).sum ≤ 8) (hdg : decode cc pc = .ok (.invokestatic idx, 3)) (k : zW p l e R s m args below meth c nL D A cells slots Q (SW κ Sa (upA g 16 (f 16)) ++ (SW κ Sb f ++ Y)) lv (pc + 3) st) : zW p l e R s m args below meth c nL D A cells slots Q (SW κ Sa g ++ (SW κ Sb f ++ Y)) lv pc (.int (nI 50) :: .int (nI 0) :: .ref (Sa 16) :: .int (nI 0) :: .ref (Sb 16) :: st) :=
  z_copyi C hlk h1 h2 h3 25 12 0 rfl rfl rfl rfl (by decide) hf hroom hdg (fun h hh => z_row (X := (SW κ Sa g ++ (SW κ Sb f ++ Y)).take 12) (Y := (SW κ Sa g ++ (SW κ Sb f ++ Y)).drop 13) (nF (f 16)) hh k)
end SR2
theorem cp_step2 {f q : Nat → Nat} {k z : Nat} (h : ∀ j, j < k → f j < 2 → q j = f j) (hz : f k < 2 → z = f k) : ∀ j, j < k + 1 → f j < 2 → upN q k z j = f j := by
  intro j hj h2
  rw [upN_if]
  split
  · rename_i e
    subst e
    exact hz h2
  · exact h j (by omega) h2
set_option maxRecDepth 100000 in
set_option maxHeartbeats 4000000 in
theorem mX4_copyFrom (l : Launch) (D : va_G) (κ : Nat → ClassId) (Sa Sb : Nat → Nat) (g f : Nat → Nat → Nat)  : zM l yX4_copyFrom wsX4_copyFrom { frames := 1, cells := 0, slots := 0, locals := 26 } D (zTy κ) [.ref (Sa 0), .ref (Sb 0)] (SW κ Sa g ++ SW κ Sb f) (S := Nat → Nat) (fun _ => none) (fun q => ∀ j, j < 10 → f 8 j < 2 → q j = f 8 j) (fun q => SW κ Sa (upA f 8 q) ++ SW κ Sb f) 0 0 := by
  refine zM_of (cc := cX4_copyFrom) (maxL := 3) (rt := none) [(0, .ref (Sa 0)), (1, .ref (Sb 0))] (by decide +kernel) rfl (Nat.le_of_ble_eq_true rfl) rfl ?_
  intro p e s m args below meth c A C hr9 hk hnm
  have C : zC p s m args c cX4_copyFrom 3 wsX4_copyFrom RX4 D (zTy κ) A := C
  have hin4 : ∀ w ∈ wsX40, w ∈ wsX4_copyFrom := fun w h => List.mem_cons_of_mem _ (List.mem_append_right _ h)
  have k49 : Cond.fieldLink RX4 49 "PeatRailway$State" "tick" "I" ∈ wsX4_copyFrom := by decide +kernel
  have k53 : Cond.fieldLink RX4 53 "PeatRailway$State" "blockCount" "I" ∈ wsX4_copyFrom := by decide +kernel
  have k56 : Cond.fieldLink RX4 56 "PeatRailway$State" "trainCount" "I" ∈ wsX4_copyFrom := by decide +kernel
  have k59 : Cond.fieldLink RX4 59 "PeatRailway$State" "removed" "I" ∈ wsX4_copyFrom := by decide +kernel
  have k62 : Cond.fieldLink RX4 62 "PeatRailway$State" "added" "I" ∈ wsX4_copyFrom := by decide +kernel
  have k9 : Cond.fieldLink RX4 9 "PeatRailway$State" "length" "[I" ∈ wsX4_copyFrom := by decide +kernel
  have k15 : Cond.fieldLink RX4 15 "PeatRailway$State" "depth" "[I" ∈ wsX4_copyFrom := by decide +kernel
  have k18 : Cond.fieldLink RX4 18 "PeatRailway$State" "bendLimit" "[I" ∈ wsX4_copyFrom := by decide +kernel
  have k21 : Cond.fieldLink RX4 21 "PeatRailway$State" "clear" "[Z" ∈ wsX4_copyFrom := by decide +kernel
  have k25 : Cond.fieldLink RX4 25 "PeatRailway$State" "lost" "[I" ∈ wsX4_copyFrom := by decide +kernel
  have k28 : Cond.fieldLink RX4 28 "PeatRailway$State" "occupant" "[I" ∈ wsX4_copyFrom := by decide +kernel
  have k31 : Cond.fieldLink RX4 31 "PeatRailway$State" "place" "[I" ∈ wsX4_copyFrom := by decide +kernel
  have k34 : Cond.fieldLink RX4 34 "PeatRailway$State" "position" "[I" ∈ wsX4_copyFrom := by decide +kernel
  have k37 : Cond.fieldLink RX4 37 "PeatRailway$State" "wagons" "[I" ∈ wsX4_copyFrom := by decide +kernel
  have k40 : Cond.fieldLink RX4 40 "PeatRailway$State" "topSpeed" "[I" ∈ wsX4_copyFrom := by decide +kernel
  have k43 : Cond.fieldLink RX4 43 "PeatRailway$State" "waits" "[I" ∈ wsX4_copyFrom := by decide +kernel
  have k46 : Cond.fieldLink RX4 46 "PeatRailway$State" "passages" "[I" ∈ wsX4_copyFrom := by decide +kernel
  refine z_eq (ws' := SW κ Sa g ++ (SW κ Sb f ++ [])) ?_ rfl rfl rfl rfl
  refine z_aload_n C dX4_copyFrom_0 0 rfl ?_
  refine z_aload_n C dX4_copyFrom_1 1 rfl ?_
  refine zs2_get_tick C hin4 k49 dX4_copyFrom_2 ?_
  refine zs_put_tick C hin4 k49 dX4_copyFrom_5 ?_
  refine z_aload_n C dX4_copyFrom_8 0 rfl ?_
  refine z_aload_n C dX4_copyFrom_9 1 rfl ?_
  refine zs2_get_blockCount C hin4 k53 dX4_copyFrom_10 ?_
  refine zs_put_blockCount C hin4 k53 dX4_copyFrom_13 ?_
  refine z_aload_n C dX4_copyFrom_16 0 rfl ?_
  refine z_aload_n C dX4_copyFrom_17 1 rfl ?_
  refine zs2_get_trainCount C hin4 k56 dX4_copyFrom_18 ?_
  refine zs_put_trainCount C hin4 k56 dX4_copyFrom_21 ?_
  refine z_aload_n C dX4_copyFrom_24 0 rfl ?_
  refine z_aload_n C dX4_copyFrom_25 1 rfl ?_
  refine zs2_get_removed C hin4 k59 dX4_copyFrom_26 ?_
  refine zs_put_removed C hin4 k59 dX4_copyFrom_29 ?_
  refine z_aload_n C dX4_copyFrom_32 0 rfl ?_
  refine z_aload_n C dX4_copyFrom_33 1 rfl ?_
  refine zs2_get_added C hin4 k62 dX4_copyFrom_34 ?_
  refine zs_put_added C hin4 k62 dX4_copyFrom_37 ?_
  refine z_aload_n C dX4_copyFrom_40 1 rfl ?_
  refine zs2_get_length C hin4 k9 dX4_copyFrom_41 ?_
  refine z_iconst (v := nI 0) C dX4_copyFrom_44 (by decide) ?_
  refine z_aload_n C dX4_copyFrom_45 0 rfl ?_
  refine zs_get_length C hin4 k9 dX4_copyFrom_46 ?_
  refine z_iconst (v := nI 0) C dX4_copyFrom_49 (by decide) ?_
  refine z_bipush (v := nI 10) C dX4_copyFrom_50 (by decide) ?_
  refine zs2_copy_length C (show Cond.methodLink RX4 65 arraycopyName ∈ wsX4_copyFrom from by decide +kernel) (by decide +kernel) (by decide +kernel) (by decide +kernel) ⟨Nat.le_of_ble_eq_true rfl, Nat.le_of_ble_eq_true rfl⟩ (Nat.le_of_ble_eq_true rfl) dX4_copyFrom_52 ?_
  refine z_aload_n C dX4_copyFrom_55 1 rfl ?_
  refine zs2_get_depth C hin4 k15 dX4_copyFrom_56 ?_
  refine z_iconst (v := nI 0) C dX4_copyFrom_59 (by decide) ?_
  refine z_aload_n C dX4_copyFrom_60 0 rfl ?_
  refine zs_get_depth C hin4 k15 dX4_copyFrom_61 ?_
  refine z_iconst (v := nI 0) C dX4_copyFrom_64 (by decide) ?_
  refine z_bipush (v := nI 10) C dX4_copyFrom_65 (by decide) ?_
  refine zs2_copy_depth C (show Cond.methodLink RX4 65 arraycopyName ∈ wsX4_copyFrom from by decide +kernel) (by decide +kernel) (by decide +kernel) (by decide +kernel) ⟨Nat.le_of_ble_eq_true rfl, Nat.le_of_ble_eq_true rfl⟩ (Nat.le_of_ble_eq_true rfl) dX4_copyFrom_67 ?_
  refine z_aload_n C dX4_copyFrom_70 1 rfl ?_
  refine zs2_get_bendLimit C hin4 k18 dX4_copyFrom_71 ?_
  refine z_iconst (v := nI 0) C dX4_copyFrom_74 (by decide) ?_
  refine z_aload_n C dX4_copyFrom_75 0 rfl ?_
  refine zs_get_bendLimit C hin4 k18 dX4_copyFrom_76 ?_
  refine z_iconst (v := nI 0) C dX4_copyFrom_79 (by decide) ?_
  refine z_bipush (v := nI 10) C dX4_copyFrom_80 (by decide) ?_
  refine zs2_copy_bendLimit C (show Cond.methodLink RX4 65 arraycopyName ∈ wsX4_copyFrom from by decide +kernel) (by decide +kernel) (by decide +kernel) (by decide +kernel) ⟨Nat.le_of_ble_eq_true rfl, Nat.le_of_ble_eq_true rfl⟩ (Nat.le_of_ble_eq_true rfl) dX4_copyFrom_82 ?_
  refine z_iconst (v := nI 0) C dX4_copyFrom_85 (by decide) ?_
  refine z_istore_n C [(2, .int (nI 0)), (0, .ref (Sa 0)), (1, .ref (Sb 0))] dX4_copyFrom_86 (by decide) rfl ?_
  refine z_lv [1, 2, 0] rfl ?_
  refine z_loop (σ := Nat × (Nat → Nat)) (fun x => SW κ Sa (upA (upA (upA (upA (up2 (up2 (up2 (up2 (up2 g 0 0 (f 0 0)) 1 0 (f 1 0)) 2 0 (f 2 0)) 3 0 (f 3 0)) 4 0 (f 4 0)) 5 (f 5)) 6 (f 6)) 7 (f 7)) 8 x.2) ++ (SW κ Sb f ++ [])) (fun x => [(0, .ref (Sa 0)), (1, .ref (Sb 0)), (2, .int (nI x.1))]) (fun x => x.1 ≤ 10 ∧ ∀ j, j < x.1 → f 8 j < 2 → x.2 j = f 8 j) (fun x => 10 - x.1) ((0, g 8)) (⟨Nat.zero_le _, fun j hj => absurd hj (Nat.not_lt_zero _)⟩) rfl rfl ?_
  rintro ⟨k, q⟩ hI87 ih87
  dsimp only at hI87 ih87 ⊢
  obtain ⟨hk1, hk2⟩ := hI87
  refine z_iload_n C dX4_copyFrom_87 2 rfl ?_
  refine z_bipush (v := nI 10) C dX4_copyFrom_88 (by decide) ?_
  refine zn_icmp_ge C 111 dX4_copyFrom_90 (by decide) (by omega) (by omega) (fun h1 => ?_) (fun h2 => ?_)
  · refine z_aload_n C dX4_copyFrom_111 1 rfl ?_
    refine zs2_get_lost C hin4 k25 dX4_copyFrom_112 ?_
    refine z_iconst (v := nI 0) C dX4_copyFrom_115 (by decide) ?_
    refine z_aload_n C dX4_copyFrom_116 0 rfl ?_
    refine zs_get_lost C hin4 k25 dX4_copyFrom_117 ?_
    refine z_iconst (v := nI 0) C dX4_copyFrom_120 (by decide) ?_
    refine z_bipush (v := nI 10) C dX4_copyFrom_121 (by decide) ?_
    refine zs2_copy_lost C (show Cond.methodLink RX4 65 arraycopyName ∈ wsX4_copyFrom from by decide +kernel) (by decide +kernel) (by decide +kernel) (by decide +kernel) ⟨Nat.le_of_ble_eq_true rfl, Nat.le_of_ble_eq_true rfl⟩ (Nat.le_of_ble_eq_true rfl) dX4_copyFrom_123 ?_
    refine z_aload_n C dX4_copyFrom_126 1 rfl ?_
    refine zs2_get_occupant C hin4 k28 dX4_copyFrom_127 ?_
    refine z_iconst (v := nI 0) C dX4_copyFrom_130 (by decide) ?_
    refine z_aload_n C dX4_copyFrom_131 0 rfl ?_
    refine zs_get_occupant C hin4 k28 dX4_copyFrom_132 ?_
    refine z_iconst (v := nI 0) C dX4_copyFrom_135 (by decide) ?_
    refine z_bipush (v := nI 10) C dX4_copyFrom_136 (by decide) ?_
    refine zs2_copy_occupant C (show Cond.methodLink RX4 65 arraycopyName ∈ wsX4_copyFrom from by decide +kernel) (by decide +kernel) (by decide +kernel) (by decide +kernel) ⟨Nat.le_of_ble_eq_true rfl, Nat.le_of_ble_eq_true rfl⟩ (Nat.le_of_ble_eq_true rfl) dX4_copyFrom_138 ?_
    refine z_aload_n C dX4_copyFrom_141 1 rfl ?_
    refine zs2_get_place C hin4 k31 dX4_copyFrom_142 ?_
    refine z_iconst (v := nI 0) C dX4_copyFrom_145 (by decide) ?_
    refine z_aload_n C dX4_copyFrom_146 0 rfl ?_
    refine zs_get_place C hin4 k31 dX4_copyFrom_147 ?_
    refine z_iconst (v := nI 0) C dX4_copyFrom_150 (by decide) ?_
    refine z_iconst (v := nI 5) C dX4_copyFrom_151 (by decide) ?_
    refine zs2_copy_place C (show Cond.methodLink RX4 65 arraycopyName ∈ wsX4_copyFrom from by decide +kernel) (by decide +kernel) (by decide +kernel) (by decide +kernel) ⟨Nat.le_of_ble_eq_true rfl, Nat.le_of_ble_eq_true rfl⟩ (Nat.le_of_ble_eq_true rfl) dX4_copyFrom_152 ?_
    refine z_aload_n C dX4_copyFrom_155 1 rfl ?_
    refine zs2_get_position C hin4 k34 dX4_copyFrom_156 ?_
    refine z_iconst (v := nI 0) C dX4_copyFrom_159 (by decide) ?_
    refine z_aload_n C dX4_copyFrom_160 0 rfl ?_
    refine zs_get_position C hin4 k34 dX4_copyFrom_161 ?_
    refine z_iconst (v := nI 0) C dX4_copyFrom_164 (by decide) ?_
    refine z_iconst (v := nI 5) C dX4_copyFrom_165 (by decide) ?_
    refine zs2_copy_position C (show Cond.methodLink RX4 65 arraycopyName ∈ wsX4_copyFrom from by decide +kernel) (by decide +kernel) (by decide +kernel) (by decide +kernel) ⟨Nat.le_of_ble_eq_true rfl, Nat.le_of_ble_eq_true rfl⟩ (Nat.le_of_ble_eq_true rfl) dX4_copyFrom_166 ?_
    refine z_aload_n C dX4_copyFrom_169 1 rfl ?_
    refine zs2_get_wagons C hin4 k37 dX4_copyFrom_170 ?_
    refine z_iconst (v := nI 0) C dX4_copyFrom_173 (by decide) ?_
    refine z_aload_n C dX4_copyFrom_174 0 rfl ?_
    refine zs_get_wagons C hin4 k37 dX4_copyFrom_175 ?_
    refine z_iconst (v := nI 0) C dX4_copyFrom_178 (by decide) ?_
    refine z_iconst (v := nI 5) C dX4_copyFrom_179 (by decide) ?_
    refine zs2_copy_wagons C (show Cond.methodLink RX4 65 arraycopyName ∈ wsX4_copyFrom from by decide +kernel) (by decide +kernel) (by decide +kernel) (by decide +kernel) ⟨Nat.le_of_ble_eq_true rfl, Nat.le_of_ble_eq_true rfl⟩ (Nat.le_of_ble_eq_true rfl) dX4_copyFrom_180 ?_
    refine z_aload_n C dX4_copyFrom_183 1 rfl ?_
    refine zs2_get_topSpeed C hin4 k40 dX4_copyFrom_184 ?_
    refine z_iconst (v := nI 0) C dX4_copyFrom_187 (by decide) ?_
    refine z_aload_n C dX4_copyFrom_188 0 rfl ?_
    refine zs_get_topSpeed C hin4 k40 dX4_copyFrom_189 ?_
    refine z_iconst (v := nI 0) C dX4_copyFrom_192 (by decide) ?_
    refine z_iconst (v := nI 5) C dX4_copyFrom_193 (by decide) ?_
    refine zs2_copy_topSpeed C (show Cond.methodLink RX4 65 arraycopyName ∈ wsX4_copyFrom from by decide +kernel) (by decide +kernel) (by decide +kernel) (by decide +kernel) ⟨Nat.le_of_ble_eq_true rfl, Nat.le_of_ble_eq_true rfl⟩ (Nat.le_of_ble_eq_true rfl) dX4_copyFrom_194 ?_
    refine z_aload_n C dX4_copyFrom_197 1 rfl ?_
    refine zs2_get_waits C hin4 k43 dX4_copyFrom_198 ?_
    refine z_iconst (v := nI 0) C dX4_copyFrom_201 (by decide) ?_
    refine z_aload_n C dX4_copyFrom_202 0 rfl ?_
    refine zs_get_waits C hin4 k43 dX4_copyFrom_203 ?_
    refine z_iconst (v := nI 0) C dX4_copyFrom_206 (by decide) ?_
    refine z_iconst (v := nI 5) C dX4_copyFrom_207 (by decide) ?_
    refine zs2_copy_waits C (show Cond.methodLink RX4 65 arraycopyName ∈ wsX4_copyFrom from by decide +kernel) (by decide +kernel) (by decide +kernel) (by decide +kernel) ⟨Nat.le_of_ble_eq_true rfl, Nat.le_of_ble_eq_true rfl⟩ (Nat.le_of_ble_eq_true rfl) dX4_copyFrom_208 ?_
    refine z_aload_n C dX4_copyFrom_211 1 rfl ?_
    refine zs2_get_passages C hin4 k46 dX4_copyFrom_212 ?_
    refine z_iconst (v := nI 0) C dX4_copyFrom_215 (by decide) ?_
    refine z_aload_n C dX4_copyFrom_216 0 rfl ?_
    refine zs_get_passages C hin4 k46 dX4_copyFrom_217 ?_
    refine z_iconst (v := nI 0) C dX4_copyFrom_220 (by decide) ?_
    refine z_bipush (v := nI 50) C dX4_copyFrom_221 (by decide) ?_
    refine zs2_copy_passages C (show Cond.methodLink RX4 65 arraycopyName ∈ wsX4_copyFrom from by decide +kernel) (by decide +kernel) (by decide +kernel) (by decide +kernel) ⟨Nat.le_of_ble_eq_true rfl, Nat.le_of_ble_eq_true rfl⟩ (Nat.le_of_ble_eq_true rfl) dX4_copyFrom_223 ?_
    exact z_vret C hr9 hk (q) (rfl) (fun j hj => hk2 j (by omega)) (List.Perm.of_eq rfl) dX4_copyFrom_226 (Nat.le_refl _) (Nat.le_refl _)
  · refine z_aload_n C dX4_copyFrom_93 0 rfl ?_
    refine zs_get_clear C hin4 k21 dX4_copyFrom_94 ?_
    refine z_iload_n C dX4_copyFrom_97 2 rfl ?_
    refine z_aload_n C dX4_copyFrom_98 1 rfl ?_
    refine zs2_get_clear C hin4 k21 dX4_copyFrom_99 ?_
    refine z_iload_n C dX4_copyFrom_102 2 rfl ?_
    refine zs2_ald_clear C (by omega) dX4_copyFrom_103 ?_
    refine zs2_ast_clear C (by omega) dX4_copyFrom_104 (fun z hz => ?_)
    refine zn_iinc (n := 1) C [(2, .int (nI (k + 1))), (0, .ref (Sa 0)), (1, .ref (Sb 0))] dX4_copyFrom_105 2 rfl (by decide) rfl ?_
    refine z_goto (tgt := 87) C dX4_copyFrom_108 (by decide) ?_
    refine z_lv [1, 2, 0] rfl ?_
    exact ih87 (k + 1, upN q k z) ⟨by dsimp only; omega, cp_step2 hk2 hz⟩ (by dsimp only; omega)
theorem hdX4_copyFrom : yX4_copyFrom.cls = RX4 ∧ yX4_copyFrom.cls ≠ "java/lang/invoke/MethodHandle" ∧ yX4_copyFrom.cls ≠ "java/lang/invoke/VarHandle" ∧ (parseMethodDescriptor yX4_copyFrom.desc).map (fun d => d.parameters.length) = some 1 := by decide +kernel
end S4
