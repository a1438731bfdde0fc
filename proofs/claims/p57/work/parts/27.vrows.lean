section VROWS
/-- contracts that leave the parser's scalars open -/
abbrev mV (l : Launch) (y : MethodName) (wsw : List Cond) (rm : Room) (D : va_G) (κ : Nat → ClassId) (Ad : Nat → Nat) (As : List Value) (eo : Int32) (ip : Nat → Int32) (v nw aw od sv ot : Nat → Nat) (ret : Option Value) (P : (Nat → Nat) → Prop) : Prop :=
  zM l y wsw rm D (zTy κ) (.ref (Ad 0) :: As) (MW κ Ad eo ip v nw aw od sv ot) (S := Nat → Nat) (fun _ => ret) P (fun u => MW κ Ad eo ip u nw aw od sv ot) 0 0
abbrev mVx (l : Launch) (y : MethodName) (wsw : List Cond) (rm : Room) (D : va_G) (κ : Nat → ClassId) (Ad : Nat → Nat) (As : List Value) (eo : Int32) (ip : Nat → Int32) (v nw aw od sv ot : Nat → Nat) (P : (Nat → Nat) → Nat → Prop) : Prop :=
  zM l y wsw rm D (zTy κ) (.ref (Ad 0) :: As) (MW κ Ad eo ip v nw aw od sv ot) (S := (Nat → Nat) × Nat) (fun u => some (.int (nI u.2))) (fun u => P u.1 u.2) (fun u => MW κ Ad eo ip u.1 nw aw od sv ot) 0 0
abbrev mVN (l : Launch) (y : MethodName) (wsw : List Cond) (rm : Room) (D : va_G) (κ : Nat → ClassId) (Ad : Nat → Nat) (As : List Value) (eo : Int32) (ip : Nat → Int32) (v nw aw od sv ot : Nat → Nat) (P : (Nat → Nat) → (Nat → Nat) → Prop) : Prop :=
  zM l y wsw rm D (zTy κ) (.ref (Ad 0) :: As) (MW κ Ad eo ip v nw aw od sv ot) (S := (Nat → Nat) × (Nat → Nat)) (fun _ => none) (fun u => P u.1 u.2) (fun u => MW κ Ad eo ip u.1 u.2 aw od sv ot) 0 0
section VR
variable {p : Program} {l : Launch} {e : Env} {R : Room} {s : State} {m : MethodId} {args : Array Value} {below : List Frame} {meth : Method} {c : Code} {cc : ByteArray} {nL : Nat} {Ts : List Cond} {own : String} {D : va_G} {A : Nat → Prop} {cells slots : Nat} {Q : State → Prop} {lv : List (Nat × Value)} {pc : Nat} {st : List Value}
variable {κ : Nat → ClassId} {Ad : Nat → Nat} {eo : Int32} {ip : Nat → Int32} {v nw aw od sv ot : Nat → Nat}
end VR
end VROWS
