section LH
/-- the law's long row of one -/
abbrev OUTW (κ : Nat → ClassId) (oa : Nat) (fo : Nat → Int64) : va_W := [(oa, .inl (κ 4, 1, .inr (.inl fo)))]
theorem updL_0 {f : Nat → Int64} {v : Int64} : vp_updL f 0 v 0 = v := if_pos rfl
/-- a contract of a method with handlers -/
def zH (X : Ctx) (l : Launch) (y : MethodName) (wsw : List Cond) (rm : Room) (D : va_G) (tys : List (ClassId × FieldType)) (av : List Value) (ws : va_W) {S : Type} (ret : S → Option Value) (post : S → Prop) (w1 : S → va_W) (mc ms : Nat) : Prop :=
  ∀ sz : Nat, vx_Met l y wsw rm (zPrc X D tys av ws sz) (zPo D tys ret post w1 (va_A ws sz)) (fun _ _ _ => False) mc ms (va_A ws sz)
section LHR
variable {p : Program} {l : Launch} {e : Env} {R : Room} {s : State} {m : MethodId} {args : Array Value} {below : List Frame} {meth : Method} {c : Code} {cc : ByteArray} {nL : Nat} {Ts : List Cond} {own : String} {D : va_G} {tys : List (ClassId × FieldType)} {A : Nat → Prop} {cells slots : Nat} {Q : State → Prop} {ws : va_W} {lv : List (Nat × Value)} {pc : Nat} {st : List Value} {X : Ctx}
theorem zH_of {y : MethodName} {wsw wsw' : List Cond} {rm : Room} {av : List Value} {S : Type} {ret : S → Option Value} {post : S → Prop} {w1 : S → va_W} {mc ms maxL : Nat} {rt : Option FieldType} {hh : List (Nat × Nat × Nat × Nat)} (lv0 : List (Nat × Value)) (hpn : plainName y.cls = true) (hw : wsw = .codeWith y cc maxL rt hh :: wsw') (hlen : (lg_sl av).length ≤ maxL) (hlv : lv_args 0 av = lv0)
    (body : ∀ (p : Program) (e : Env) (s : State) (m : MethodId) (args : Array Value) (below : List Frame) (meth : Method) (c : Code) (A : Nat → Prop), zC p s m args c cc maxL wsw y.cls D tys A → meth.sig.returnType = rt → meth.locks = false → c.exceptionTable.toList = tableOf hh → X A s s.heap → zW p l e rm s m args below meth c maxL D A 0 0 (vx_MQ below (zPo D tys ret post w1 A) (fun _ _ _ => False) args s mc ms A) ws lv0 0 []) : zH X l y wsw rm D tys av ws ret post w1 mc ms := by
  subst hlv
  intro sz
  refine vx_ofWH (cc := cc) (maxL := maxL) (ret := rt) hpn hw ?_
  intro p e s m args below meth c s₁ B hml hv
  have htab := vx_table (x := y) B (atoms_spec (ws := wsw) B.pre _ (by rw [hw]; exact List.mem_cons_self))
  obtain ⟨rfl, hsz, hP, hK, hD0, hX⟩ := hv
  subst hsz
  have hD := hD0.self (sz := s.heap.size)
  have hl := lv_entry av (n := maxL) hlen
  rw [lg_entry_eq]
  exact body p e s m _ below meth c (va_A ws s.heap.size) ⟨B.exec, B.bytes, hml, findClass_of_methodNamed B.named, atoms_spec (ws := wsw) B.pre, hK, fun q h => Or.inr h⟩ B.returns B.notSynchronized htab hX s.heap [] _ hP hD va_S.rf hl
theorem zh_iret (C : zC p s m args c cc nL Ts own D tys A) (hr : meth.sig.returnType = some .int) (hk : meth.locks = false) {S : Type} {ret : S → Option Value} {post : S → Prop} {w1 : S → va_W} {XC : String → State → State → Prop} {mc ms : Nat} {v : Int32} (u : S) (hu : ret u = some (.int v)) (hp : post u) (hw : ws.Perm (w1 u)) (hdg : decode cc pc = .ok (.ireturn, 1)) (hc : cells ≤ mc) (hs : slots ≤ ms) : zW p l e R s m args below meth c nL D A cells slots (vx_MQ below (zPo D tys ret post w1 A) XC args s mc ms A) ws lv pc [.int v] := fun H locs ls hP hD hS hl =>
  vx_ret (z_iret C hr hk u hu hp hw hdg hc hs H locs ls hP hD hS hl)
theorem z_lconst (C : zC p s m args c cc nL Ts own D tys A) {n : Fin 2} {v : Int64} (hdg : decode cc pc = .ok (.lconst n, 1)) (hv : Int64.ofNat (n : Nat) = v) (k : zW p l e R s m args below meth c nL D A cells slots Q ws lv (pc + 1) (.long v :: st)) : zW p l e R s m args below meth c nL D A cells slots Q ws lv pc st := fun H locs ls hP hD hS hl => lv_lconst C.1 C.2.1 hdg hv (k H locs ls hP hD hS hl)
theorem zh_callS (C : zC p s m args c cc nL Ts own D tys A) {y : MethodName} {wsy wsy' : List Cond} {rmy : Room} {wc : va_W} {As : List Value} {S : Type} {ret : S → Option Value} {post : S → Prop} {w1 : S → va_W} {mc ms idx maxL : Nat} {bytes : ByteArray} {rt : Option FieldType} {hh : List (Nat × Nat × Nat × Nat)} {st0 : List Value}
    (hXo : CtxOk X) (hX : X A s s.heap) (hM : zH X l y wsy rmy D tys As wc ret post w1 mc ms) (hG : GoodIn Ts (va_wsS own idx y wsy)) (hw : wsy = .codeWith y bytes maxL rt hh :: wsy') (hrc : rmy.cells = mc) (hrs : rmy.slots = ms)
    (hd : y.cls ≠ "java/lang/invoke/MethodHandle" ∧ y.cls ≠ "java/lang/invoke/VarHandle" ∧ (parseMethodDescriptor y.desc).map (fun d => d.parameters.length) = some As.length) (hR : rmy.frames + 1 ≤ R.frames ∧ 8 + (maxL + 11) + rmy.locals ≤ R.locals)
    (wr : va_W) (ws2 : S → va_W) (hsp : ws.Perm (wc ++ wr)) (hjn : ∀ u, (w1 u ++ wr).Perm (ws2 u)) (hst : st0 = As.reverse ++ st) (hroom : (st.map fun v => v.category).sum ≤ 8) (hdg : decode cc pc = .ok (.invokestatic idx, 3)) (hf : cells + mc ≤ R.cells ∧ slots + ms ≤ R.slots)
    (k : ∀ u, post u → zW p l e R s m args below meth c nL D A (cells + mc) (slots + ms) Q (ws2 u) lv (pc + 3) ((ret u).toList ++ st)) : zW p l e R s m args below meth c nL D A cells slots Q ws lv pc st0 := by
  subst hst
  intro H locs ls hP hD hS hl
  obtain ⟨hx, hb, hml, hown, hts, hK, hA⟩ := C
  have hP := zp_P hsp hP
  have hD := zp_D hsp hD
  have hFc := z_free hD hS hA
  intro T9 hT9 X9
  rcases vx_runSX (As := As) (rest := st) (g := F0 m pc ls (As.reverse ++ st)) ⟨hx, hb, hml, hown, hts⟩ (hM H.size) (vx_cwSW As.length hts hG hw hrc hrs hd hR) ⟨zPrc_blind hXo _ _ _ _ _, z_prec hXo hX hS hFc (zp_l hP) (zd_l hD) hK⟩ rfl rfl hl.1 rfl (lv_room hroom) hdg hf T9 hT9 X9 with ⟨v, st₀, t, T', L, h0, X', hL, e1, e2, ⟨⟨u, hv, hp, hbP, hbK, hbD⟩, hz, hk⟩, sg⟩ | ⟨q, st₀, t, T', L, E, ce, h0, X', hL, e1, e2, hno, hce, hcv, hcl, sg⟩
  · cases hv
    obtain ⟨k1, k2, k3⟩ := vx_keep h0 e1 hS (fun q _ h => hFc q h) hFc hL ⟨hz, hk⟩
    rw [← e1] at hbP
    obtain ⟨hP1, hD1⟩ := z_join hP hD k2 hFc hbP hbD
    obtain ⟨t2, a1, b1⟩ := k u hp T'.heap (locs ++ L) ls (zp_P (hjn u) hP1) (zp_D (hjn u) hD1) k3 hl T' rfl X'
    exact ⟨t2, sg t2 a1, b1⟩
  · exact hno.elim
end LHR
theorem tn_1 : ∀ q ∈ [(eIB, eIS), (eIB, eIA), (eIS, eIB), (eIS, eIA), (eIA, eIB), (eIA, eIS)], q ∈ nNs := fun _ h => h
end LH
