section MROWS
/-- a train's number, or none, as a number: 0 is none -/
def tI (x : Nat) : Int32 := match x with
  | 0 => -1
  | k + 1 => nI k
theorem tI_0 : tI 0 = -1 := rfl
theorem tI_s (k : Nat) : tI (k + 1) = nI k := rfl
theorem nI_neg1 {k : Nat} (h : k < 2147483648) : ¬ nI k = -1 := fun q => absurd (q ▸ nI_pos' h) (by decide)
theorem tI_eq {x : Nat} (h : x < 2147483648) : tI x = -1 ↔ x = 0 := by
  cases x with
  | zero => exact ⟨fun _ => rfl, fun _ => rfl⟩
  | succ k => exact ⟨fun q => absurd q (nI_neg1 (Nat.lt_of_succ_lt h)), fun q => absurd q (Nat.succ_ne_zero k)⟩
theorem ni_i2b {k : Nat} (h : k < 128) : (nI k).toInt8.toInt32 = nI k := (show ∀ k, k < 128 → (nI k).toInt8.toInt32 = nI k by decide) k h
theorem ni_nar {k : Nat} (h : k < 128) : vp_nar .byte (nI k) = nI k := by rw [vp_nar_byte]; exact ni_i2b h
abbrev zTy (κ : Nat → ClassId) : List (ClassId × FieldType) := [(κ 0, .int), (κ 1, .byte), (κ 2, .boolean), (κ 3, .object "PeatRailway$State")]
def kyL : List Nat := [114, 97, 105, 108, 119, 97, 121, 98, 108, 111, 99, 107, 0, 0, 98, 101, 110, 100, 0, 0, 0, 116, 114, 97, 105, 110, 0, 0, 112, 117, 108, 108, 0, 0, 0, 100, 97, 110, 103, 101, 114, 0, 114, 101, 112, 97, 105, 114, 0, 116, 105, 99, 107, 115, 0, 0]
def kyF (j : Nat) : Nat := kyL.getD j 0
section MR
variable {p : Program} {l : Launch} {e : Env} {R : Room} {s : State} {m : MethodId} {args : Array Value} {below : List Frame} {meth : Method} {c : Code} {cc : ByteArray} {nL : Nat} {Ts : List Cond} {own : String} {D : va_G} {tys : List (ClassId × FieldType)} {A : Nat → Prop} {cells slots : Nat} {Q : State → Prop} {ws : va_W} {lv : List (Nat × Value)} {pc : Nat} {st : List Value}
variable {κ : Nat → ClassId} {Ad : Nat → Nat} {eo : Int32} {ip : Nat → Int32} {v nw aw od sv ot : Nat → Nat}
theorem zt_icmp_eq (C : zC p s m args c cc nL Ts own D tys A) {x : Nat} {off : Int} (tgt : Nat) (hdg : decode cc pc = .ok (.if_icmp .eq off, 3)) (ht : (pc : Int) + off = (tgt : Int)) (hx : x < 2147483648) (kt : x = 0 → zW p l e R s m args below meth c nL D A cells slots Q ws lv tgt st) (kf : 0 < x → zW p l e R s m args below meth c nL D A cells slots Q ws lv (pc + 3) st) : zW p l e R s m args below meth c nL D A cells slots Q ws lv pc (.int (-1) :: .int (tI x) :: st) := z_icmp_eq C tgt hdg ht (fun q => kt ((tI_eq hx).mp q)) (fun q => kf (Nat.pos_of_ne_zero (fun z => q ((tI_eq hx).mpr z))))
theorem zt_icmp_ne (C : zC p s m args c cc nL Ts own D tys A) {x : Nat} {off : Int} (tgt : Nat) (hdg : decode cc pc = .ok (.if_icmp .ne off, 3)) (ht : (pc : Int) + off = (tgt : Int)) (hx : x < 2147483648) (kt : 0 < x → zW p l e R s m args below meth c nL D A cells slots Q ws lv tgt st) (kf : x = 0 → zW p l e R s m args below meth c nL D A cells slots Q ws lv (pc + 3) st) : zW p l e R s m args below meth c nL D A cells slots Q ws lv pc (.int (-1) :: .int (tI x) :: st) := z_icmp_ne C tgt hdg ht (fun q => kt (Nat.pos_of_ne_zero (fun z => q ((tI_eq hx).mpr z)))) (fun q => kf ((tI_eq hx).mp q))
/-- a static method that touches no cell -/
abbrev sM (l : Launch) (y : MethodName) (wsw : List Cond) (rm : Room) (D : va_G) (κ : Nat → ClassId) (As : List Value) (ret : Option Value) : Prop :=
  zM l y wsw rm D (zTy κ) As [] (S := Unit) (fun _ => ret) (fun _ => True) (fun _ => []) 0 0
theorem zs_call (C : zC p s m args c cc nL Ts own D (zTy κ) A) {y : MethodName} {wsy wsy' : List Cond} {rmy : Room} {As : List Value} {ret : Option Value} {idx maxL : Nat} {bytes : ByteArray} {rt : Option FieldType} {st0 : List Value} (hM : sM l y wsy rmy D κ As ret) (hG : GoodIn Ts (va_wsS own idx y wsy)) (hw : wsy = .code y bytes maxL rt :: wsy') (hrc : rmy.cells = 0) (hrs : rmy.slots = 0)
    (hd : y.cls ≠ "java/lang/invoke/MethodHandle" ∧ y.cls ≠ "java/lang/invoke/VarHandle" ∧ (parseMethodDescriptor y.desc).map (fun d => d.parameters.length) = some As.length) (hR : rmy.frames + 1 ≤ R.frames ∧ 8 + (maxL + 11) + rmy.locals ≤ R.locals) (hst : st0 = As.reverse ++ st) (hroom : (st.map fun v => v.category).sum ≤ 8) (hdg : decode cc pc = .ok (.invokestatic idx, 3)) (hf : cells ≤ R.cells ∧ slots ≤ R.slots)
    (k : zW p l e R s m args below meth c nL D A cells slots Q ws lv (pc + 3) (ret.toList ++ st)) : zW p l e R s m args below meth c nL D A cells slots Q ws lv pc st0 :=
  z_callS C hM hG hw hrc hrs hd hR ws (fun _ => ws) (List.Perm.refl _) (fun _ => List.Perm.refl _) hst hroom hdg hf (fun _ _ => k)
theorem z_cut {α : Type} (Pr : α → Prop) (wsf : α → va_W) (lvf : α → List (Nat × Value)) (stf : α → List Value) (pc' : Nat) (rest : ∀ x, Pr x → zW p l e R s m args below meth c nL D A cells slots Q (wsf x) (lvf x) pc' (stf x)) (k : (∀ x, Pr x → zW p l e R s m args below meth c nL D A cells slots Q (wsf x) (lvf x) pc' (stf x)) → zW p l e R s m args below meth c nL D A cells slots Q ws lv pc st) : zW p l e R s m args below meth c nL D A cells slots Q ws lv pc st := k rest
end MR
end MROWS
