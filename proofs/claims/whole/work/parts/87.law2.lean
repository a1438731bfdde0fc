section LAW2
/-- the law's world -/
abbrev LAWW (κ : Nat → ClassId) (ra la lb oa : Nat) (Ad : Nat → Nat) (AA Hs : Nat → Nat → Nat) (hf : Nat → Option Nat) (fo : Nat → Int64) (g f g1 g2 gp : Nat → Nat → Nat) (gh : Nat → Nat → Nat → Nat) (nx ct f1 f2 no : Nat) (ot : Nat → Nat) (eo : Int32) (v : Nat → Nat) (tx ip : Nat → Int32) (w σ aw : Nat → Nat) (h s2 : Nat → Nat → Nat) : va_W :=
  OUTW κ oa fo ++ (MW κ Ad eo ip w σ aw (hiF h) (hiF s2) ot ++ (SW κ (AA 0) g ++ (RC ra (AA 0 0) (AA 1 0) (AA 2 0) la lb (AA 6 0) (AA 5 0) ++ (SW κ (AA 1) f ++ (HO κ (AA 2) hf nx ct ++ (hW κ Hs gh 10 ++ (SW κ (AA 3) g1 ++ (SO la (AA 3 0) f1 ++ (SW κ (AA 4) g2 ++ (SO lb (AA 4 0) f2 ++ (OW κ (AA 5) no ot ++ (SW κ (AA 7) gp ++ PW κ (AA 6) (AA 7) eo v tx))))))))))))
abbrev RML : Room := { frames := 13, cells := 601024, slots := 7293034, locals := 480 }
/-- the law goes on at pc, whatever its state that keeps LI -/
abbrev LGO (p : Program) (l : Launch) (e : Env) (s : State) (m : MethodId) (args : Array Value) (below : List Frame) (meth : Method) (c : Code) (D : va_G) (A : Nat → Prop) (Q : State → Prop) (sc : Nat) (κ : Nat → ClassId) (ra la lb oa : Nat) (Ad : Nat → Nat) (AA Hs : Nat → Nat → Nat) (hf : Nat → Option Nat) (pc M i C1 S1 : Nat) : Prop :=
  ∀ (fo : Nat → Int64) (g f g1 g2 gp : Nat → Nat → Nat) (gh : Nat → Nat → Nat → Nat) (nx ct f1 f2 no : Nat) (ot : Nat → Nat) (eo : Int32) (v : Nat → Nat) (tx ip : Nat → Int32) (w σ aw : Nat → Nat) (h s2 : Nat → Nat → Nat) (c' s' : Nat), c' ≤ C1 → s' ≤ S1 → LI M g g1 g2 gh nx ct f1 f2 no v tx ip w σ h s2 →
    zW p l e RML s m args below meth c 9 D A c' s' Q (LAWW κ ra la lb oa Ad AA Hs hf fo g f g1 g2 gp gh nx ct f1 f2 no ot eo v tx ip w σ aw h s2) [(0, .ref sc), (1, .ref ra), (2, .ref (Ad 0)), (3, .ref oa), (4, .int (nI i))] pc []
end LAW2
