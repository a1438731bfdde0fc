section LH
/-- a contract of a method with handlers -/
def zH (X : Ctx) (l : Launch) (y : MethodName) (wsw : List Cond) (rm : Room) (D : va_G) (tys : List (ClassId × FieldType)) (av : List Value) (ws : va_W) {S : Type} (ret : S → Option Value) (post : S → Prop) (w1 : S → va_W) (mc ms : Nat) : Prop :=
  ∀ sz : Nat, vx_Met l y wsw rm (zPrc X D tys av ws sz) (zPo D tys ret post w1 (va_A ws sz)) (fun _ _ _ => False) mc ms (va_A ws sz)
section LHR
variable {p : Program} {l : Launch} {e : Env} {R : Room} {s : State} {m : MethodId} {args : Array Value} {below : List Frame} {meth : Method} {c : Code} {cc : ByteArray} {nL : Nat} {Ts : List Cond} {own : String} {D : va_G} {tys : List (ClassId × FieldType)} {A : Nat → Prop} {cells slots : Nat} {Q : State → Prop} {ws : va_W} {lv : List (Nat × Value)} {pc : Nat} {st : List Value} {X : Ctx}
theorem zH_of {y : MethodName} {wsw wsw' : List Cond} {rm : Room} {av : List Value} {S : Type} {ret : S → Option Value} {post : S → Prop} {w1 : S → va_W} {mc ms maxL : Nat} {rt : Option FieldType} {hh : List (Nat × Nat × Nat × Nat)} (lv0 : List (Nat × Value)) (hpn : plainName y.cls = true) (hw : wsw = .codeWith y cc maxL rt hh :: wsw') (hlen : (lg_sl av).length ≤ maxL) (hlv : lv_args 0 av = lv0)
    (body : ∀ (p : Program) (e : Env) (s : State) (m : MethodId) (args : Array Value) (below : List Frame) (meth : Method) (c : Code) (A : Nat → Prop), zC p s m args c cc maxL wsw y.cls D tys A → meth.sig.returnType = rt → meth.locks = false → c.exceptionTable.toList = tableOf hh → X A s s.heap → zW p l e rm s m args below meth c maxL D A 0 0 (vx_MQ below (zPo D tys ret post w1 A) (fun _ _ _ => False) args s mc ms A) ws lv0 0 []) : zH X l y wsw rm D tys av ws ret post w1 mc ms := by
  subst hlv
  intro sz
  refine vx_ofWH (cc := cc) (maxL := maxL) (ret := rt) hpn hw ?_
  intro p e s m args below meth c s₁ B hml hv
  have htab := vx_table (x := y) B (atoms_spec (ws := wsw) B.pre _ (by rw [hw]; exact List.mem_cons_self))
  obtain ⟨rfl, hsz, hP, hK, hD0, hX⟩ := hv
  subst hsz
  have hD := hD0.self (sz := s.heap.size)
  have hl := lv_entry av (n := maxL) hlen
  rw [lg_entry_eq]
  exact body p e s m _ below meth c (va_A ws s.heap.size) ⟨B.exec, B.bytes, hml, findClass_of_methodNamed B.named, atoms_spec (ws := wsw) B.pre, hK, fun q h => Or.inr h⟩ B.returns B.notSynchronized htab hX s.heap [] _ hP hD va_S.rf hl
theorem zh_iret (C : zC p s m args c cc nL Ts own D tys A) (hr : meth.sig.returnType = some .int) (hk : meth.locks = false) {S : Type} {ret : S → Option Value} {post : S → Prop} {w1 : S → va_W} {XC : String → State → State → Prop} {mc ms : Nat} {v : Int32} (u : S) (hu : ret u = some (.int v)) (hp : post u) (hw : ws.Perm (w1 u)) (hdg : decode cc pc = .ok (.ireturn, 1)) (hc : cells ≤ mc) (hs : slots ≤ ms) : zW p l e R s m args below meth c nL D A cells slots (vx_MQ below (zPo D tys ret post w1 A) XC args s mc ms A) ws lv pc [.int v] := fun H locs ls hP hD hS hl =>
  vx_ret (z_iret C hr hk u hu hp hw hdg hc hs H locs ls hP hD hS hl)
theorem zh_callS (C : zC p s m args c cc nL Ts own D tys A) {y : MethodName} {wsy wsy' : List Cond} {rmy : Room} {wc : va_W} {As : List Value} {S : Type} {ret : S → Option Value} {post : S → Prop} {w1 : S → va_W} {mc ms idx maxL : Nat} {bytes : ByteArray} {rt : Option FieldType} {hh : List (Nat × Nat × Nat × Nat)} {st0 : List Value}
    (hXo : CtxOk X) (hX : X A s s.heap) (hM : zH X l y wsy rmy D tys As wc ret post w1 mc ms) (hG : GoodIn Ts (va_wsS own idx y wsy)) (hw : wsy = .codeWith y bytes maxL rt hh :: wsy') (hrc : rmy.cells = mc) (hrs : rmy.slots = ms)
    (hd : y.cls ≠ "java/lang/invoke/MethodHandle" ∧ y.cls ≠ "java/lang/invoke/VarHandle" ∧ (parseMethodDescriptor y.desc).map (fun d => d.parameters.length) = some As.length) (hR : rmy.frames + 1 ≤ R.frames ∧ 8 + (maxL + 11) + rmy.locals ≤ R.locals)
    (wr : va_W) (ws2 : S → va_W) (hsp : ws.Perm (wc ++ wr)) (hjn : ∀ u, (w1 u ++ wr).Perm (ws2 u)) (hst : st0 = As.reverse ++ st) (hroom : (st.map fun v => v.category).sum ≤ 8) (hdg : decode cc pc = .ok (.invokestatic idx, 3)) (hf : cells + mc ≤ R.cells ∧ slots + ms ≤ R.slots)
    (k : ∀ u, post u → zW p l e R s m args below meth c nL D A (cells + mc) (slots + ms) Q (ws2 u) lv (pc + 3) ((ret u).toList ++ st)) : zW p l e R s m args below meth c nL D A cells slots Q ws lv pc st0 := by
  subst hst
  intro H locs ls hP hD hS hl
  obtain ⟨hx, hb, hml, hown, hts, hK, hA⟩ := C
  have hP := zp_P hsp hP
  have hD := zp_D hsp hD
  have hFc := z_free hD hS hA
  intro T9 hT9 X9
  rcases vx_runSX (As := As) (rest := st) (g := F0 m pc ls (As.reverse ++ st)) ⟨hx, hb, hml, hown, hts⟩ (hM H.size) (vx_cwSW As.length hts hG hw hrc hrs hd hR) ⟨zPrc_blind hXo _ _ _ _ _, z_prec hXo hX hS hFc (zp_l hP) (zd_l hD) hK⟩ rfl rfl hl.1 rfl (lv_room hroom) hdg hf T9 hT9 X9 with ⟨v, st₀, t, T', L, h0, X', hL, e1, e2, ⟨⟨u, hv, hp, hbP, hbK, hbD⟩, hz, hk⟩, sg⟩ | ⟨q, st₀, t, T', L, E, ce, h0, X', hL, e1, e2, hno, hce, hcv, hcl, sg⟩
  · cases hv
    obtain ⟨k1, k2, k3⟩ := vx_keep h0 e1 hS (fun q _ h => hFc q h) hFc hL ⟨hz, hk⟩
    rw [← e1] at hbP
    obtain ⟨hP1, hD1⟩ := z_join hP hD k2 hFc hbP hbD
    obtain ⟨t2, a1, b1⟩ := k u hp T'.heap (locs ++ L) ls (zp_P (hjn u) hP1) (zp_D (hjn u) hD1) k3 hl T' rfl X'
    exact ⟨t2, sg t2 a1, b1⟩
  · exact hno.elim
end LHR
theorem tn_1 : ∀ q ∈ [(eIB, eIS), (eIB, eIA), (eIS, eIB), (eIS, eIA), (eIA, eIB), (eIA, eIS)], q ∈ nNs := fun _ h => h
abbrev RAW (κ : Nat → ClassId) (rr : Nat) (ρ : Nat → Int32) : va_W := [(rr, .inl (κ 0, 1, .inl ρ))]
theorem ushr9 (x : Int32) : ∃ k, k < 8388608 ∧ (x.toUInt32 >>> ((nI 9).toUInt32 &&& Int32.toUInt32 31)).toInt32 = nI k := by
  have e : (nI 9).toUInt32 &&& Int32.toUInt32 31 = 9 := by decide
  rw [e]
  refine ⟨(x.toUInt32 >>> 9).toNat, ?_, ?_⟩
  · rw [UInt32.toNat_shiftRight]
    have h := x.toUInt32.toNat_lt
    have e2 : x.toUInt32.toNat >>> ((9 : UInt32).toNat % 32) = x.toUInt32.toNat / 512 := by
      rw [show (9 : UInt32).toNat % 32 = 9 by decide, Nat.shiftRight_eq_div_pow]
    rw [e2]
    omega
  · generalize x.toUInt32 >>> 9 = y
    show y.toInt32 = Int32.ofNat y.toNat
    apply Int32.toBitVec_inj.mp
    show y.toBitVec = BitVec.ofNat 32 y.toNat
    apply BitVec.eq_of_toNat_eq
    rw [BitVec.toNat_ofNat, Nat.mod_eq_of_lt y.toNat_lt]
    rfl
set_option maxRecDepth 100000 in
set_option maxHeartbeats 16000000 in
theorem mL_next (l : Launch) (D : va_G) (κ : Nat → ClassId) (rr : Nat) (ρ : Nat → Int32)  : zM l yL_next wsL_next { frames := 0, cells := 0, slots := 0, locals := 0 } D (zTy κ) [.ref (rr)] (RAW κ rr ρ) (S := Nat × (Nat → Int32)) (fun u => some (.int (nI u.1))) (fun u => u.1 < 8388608) (fun u => RAW κ rr u.2) 0 0 := by
  refine zM_of (cc := cL_next) (maxL := 1) (rt := (some .int)) [(0, .ref (rr))] (by decide +kernel) rfl (Nat.le_of_ble_eq_true rfl) rfl ?_
  intro p e s m args below meth c A C hr9 hk hnm
  have C : zC p s m args c cL_next 1 wsL_next RL D (zTy κ) A := C
  refine z_aload_n C dL_next_0 0 rfl ?_
  refine z_iconst (v := nI 0) C dL_next_1 (by decide) ?_
  refine z_aload_n C dL_next_2 0 rfl ?_
  refine z_iconst (v := nI 0) C dL_next_3 (by decide) ?_
  refine z_iald C 0 0 rfl rfl (i := 0) (by decide) (by decide) dL_next_4 ?_
  refine z_ldc (v := 1103515245) C (show Cond.constant RL 7 1103515245 ∈ wsL_next from by decide +kernel) dL_next_5 ?_
  refine z_imul C dL_next_7 ?_
  refine z_sipush (v := nI 12345) C dL_next_8 (by decide) ?_
  refine z_iadd C dL_next_11 ?_
  refine z_iast C 0 0 rfl rfl (i := 0) (by decide) (by decide) dL_next_12 (RAW κ rr (upd ρ 0 ((((ρ 0) * ((1103515245 : Int32))) + nI 12345)))) rfl ?_
  refine z_aload_n C dL_next_13 0 rfl ?_
  refine z_iconst (v := nI 0) C dL_next_14 (by decide) ?_
  refine z_dup2 C dL_next_15 rfl rfl ?_
  refine z_iald C 0 0 rfl rfl (i := 0) (by decide) (by decide) dL_next_16 ?_
  refine z_aload_n C dL_next_17 0 rfl ?_
  refine z_iconst (v := nI 0) C dL_next_18 (by decide) ?_
  refine z_iald C 0 0 rfl rfl (i := 0) (by decide) (by decide) dL_next_19 ?_
  refine z_bipush (v := nI 15) C dL_next_20 (by decide) ?_
  refine z_iushr (v := ((((upd ρ 0 ((((ρ 0) * ((1103515245 : Int32))) + nI 12345))) 0)).toUInt32 >>> ((nI 15).toUInt32 &&& Int32.toUInt32 31)).toInt32) C dL_next_22 rfl ?_
  refine z_ixor C dL_next_23 ?_
  refine z_iast C 0 0 rfl rfl (i := 0) (by decide) (by decide) dL_next_24 (RAW κ rr (upd (upd ρ 0 ((((ρ 0) * ((1103515245 : Int32))) + nI 12345))) 0 ((((upd ρ 0 ((((ρ 0) * ((1103515245 : Int32))) + nI 12345))) 0) ^^^ (((((upd ρ 0 ((((ρ 0) * ((1103515245 : Int32))) + nI 12345))) 0)).toUInt32 >>> ((nI 15).toUInt32 &&& Int32.toUInt32 31)).toInt32))))) rfl ?_
  refine z_aload_n C dL_next_25 0 rfl ?_
  refine z_iconst (v := nI 0) C dL_next_26 (by decide) ?_
  refine z_iald C 0 0 rfl rfl (i := 0) (by decide) (by decide) dL_next_27 ?_
  refine z_bipush (v := nI 9) C dL_next_28 (by decide) ?_
  obtain ⟨k9, hk9, e9⟩ := ushr9 (((upd (upd ρ 0 ((((ρ 0) * ((1103515245 : Int32))) + nI 12345))) 0 ((((upd ρ 0 ((((ρ 0) * ((1103515245 : Int32))) + nI 12345))) 0) ^^^ (((((upd ρ 0 ((((ρ 0) * ((1103515245 : Int32))) + nI 12345))) 0)).toUInt32 >>> ((nI 15).toUInt32 &&& Int32.toUInt32 31)).toInt32)))) 0))
  refine z_iushr (v := nI k9) C dL_next_30 e9 ?_
  exact z_iret C hr9 hk ((k9, upd (upd ρ 0 ((((ρ 0) * ((1103515245 : Int32))) + nI 12345))) 0 ((((upd ρ 0 ((((ρ 0) * ((1103515245 : Int32))) + nI 12345))) 0) ^^^ (((((upd ρ 0 ((((ρ 0) * ((1103515245 : Int32))) + nI 12345))) 0)).toUInt32 >>> ((nI 15).toUInt32 &&& Int32.toUInt32 31)).toInt32))))) (rfl) (hk9) (List.Perm.refl _) dL_next_31 (Nat.le_refl _) (Nat.le_refl _)
theorem hdL_next : yL_next.cls ≠ "java/lang/invoke/MethodHandle" ∧ yL_next.cls ≠ "java/lang/invoke/VarHandle" ∧ (parseMethodDescriptor yL_next.desc).map (fun d => d.parameters.length) = some 1 := by decide +kernel
set_option maxRecDepth 100000 in
set_option maxHeartbeats 4000000 in
theorem mL_undone_ok (l : Launch) (D : va_G) (κ : Nat → ClassId) (Sa Ha : Nat → Nat) (Hs : Nat → Nat → Nat) (hf : Nat → Option Nat) (ra f9 a9 b9 p9 o9 : Nat) (g : Nat → Nat → Nat) (nx ct : Nat) (gh : Nat → Nat → Nat → Nat) (M : Nat) (τ : Nat → Nat) (hhf : ∀ j, j < 10 → hf j = some (Hs j 0)) (hnx : nx < 10) (hct : ct ≤ 10) (hc1 : 1 ≤ ct) (hrh : Rep (gh (bkN nx)) τ) (hvh : Inv M τ) (adK adV : Nat → Nat) : zH (aX adK adV) l yL_undone wsL_undone { frames := 4, cells := 0, slots := 0, locals := 91 } D (zTy κ) [.ref ra] (kW κ Sa Ha Hs hf ra f9 a9 b9 p9 o9 g nx ct gh) (S := Nat → Nat → Nat) (fun _ => some (.int (nI (ct - 1)))) (fun u => Rep u τ) (fun u => kW κ Sa Ha Hs hf ra f9 a9 b9 p9 o9 u (bkN nx) (ct - 1) gh) 0 0 := by
  refine zH_of (cc := cL_undone) (maxL := 2) (rt := some .int) (hh := [(0, 4, 5, 41)]) [(0, .ref (ra))] (by decide +kernel) rfl (Nat.le_of_ble_eq_true rfl) rfl ?_
  intro p e s m args below meth c A C hr9 hk htab hX
  have C : zC p s m args c cL_undone 2 wsL_undone RL D (zTy κ) A := C
  refine z_aload_n C dL_undone_0 0 rfl ?_
  refine z_callV C (mX5_undo_ok l D κ Sa Ha Hs hf ra f9 a9 b9 p9 o9 g nx ct gh M τ hhf hnx hct hc1 hrh hvh) gL_undone_X5_undo rfl rfl rfl hdX5_undo ⟨(Nat.le_of_ble_eq_true rfl), (Nat.le_of_ble_eq_true rfl)⟩ 13 rfl rfl [] (fun u => kW κ Sa Ha Hs hf ra f9 a9 b9 p9 o9 u (bkN nx) (ct - 1) gh) zp_self (fun _ => zp_self') rfl (Nat.le_of_ble_eq_true rfl) dL_undone_1 ⟨(Nat.le_of_ble_eq_true rfl), (Nat.le_of_ble_eq_true rfl)⟩ (fun u hu => ?_)
  exact zh_iret C hr9 hk u rfl hu (List.Perm.of_eq rfl) dL_undone_4 (Nat.le_of_ble_eq_true rfl) (Nat.le_of_ble_eq_true rfl)
theorem hdL_undone : yL_undone.cls ≠ "java/lang/invoke/MethodHandle" ∧ yL_undone.cls ≠ "java/lang/invoke/VarHandle" ∧ (parseMethodDescriptor yL_undone.desc).map (fun d => d.parameters.length) = some 1 := by decide +kernel
set_option maxRecDepth 100000 in
set_option maxHeartbeats 4000000 in
theorem mL_advanced_ok (l : Launch) (D : va_G) (κ : Nat → ClassId) (Sa Ha : Nat → Nat) (Hs : Nat → Nat → Nat) (hf : Nat → Option Nat) (ra f9 a9 b9 p9 o9 : Nat) (g : Nat → Nat → Nat) (nx ct : Nat) (gh : Nat → Nat → Nat → Nat) (σ : Nat → Nat) (M : Nat) (n : Nat) (hr : Rep g σ) (hv : Inv M σ) (hhf : ∀ j, j < 10 → hf j = some (Hs j 0)) (hnx : nx < 10) (hct : ct ≤ 10) (h1n : 1 ≤ n) (h2n : n ≤ 99) (hl : σ 0 + n ≤ 9999) (hM : M + 11 * n + 11 < 1073741824) (adK adV : Nat → Nat) : zH (aX adK adV) l yL_advanced wsL_advanced { frames := 5, cells := 0, slots := 0, locals := 113 } D (zTy κ) [.ref ra, .int (nI n)] (kW κ Sa Ha Hs hf ra f9 a9 b9 p9 o9 g nx ct gh) (S := (Nat → Nat → Nat) × (Nat → Nat → Nat)) (fun _ => some (.int (nI (psE n σ)))) (fun u => Rep u.1 σ ∧ Rep u.2 (psS n σ)) (fun u => kW κ Sa Ha Hs hf ra f9 a9 b9 p9 o9 u.2 (fwN nx) (mnN ct) (upS gh nx u.1)) 0 0 := by
  refine zH_of (cc := cL_advanced) (maxL := 3) (rt := some .int) (hh := [(0, 5, 6, 36), (0, 5, 10, 41)]) [(0, .ref (ra)), (1, .int (nI n))] (by decide +kernel) rfl (Nat.le_of_ble_eq_true rfl) rfl ?_
  intro p e s m args below meth c A C hr9 hk htab hX
  have C : zC p s m args c cL_advanced 3 wsL_advanced RL D (zTy κ) A := C
  refine z_aload_n C dL_advanced_0 0 rfl ?_
  refine z_iload_n C dL_advanced_1 1 rfl ?_
  refine z_callV C (mX5_advance_ok l D κ Sa Ha Hs hf ra f9 a9 b9 p9 o9 g nx ct gh σ M n hr hv hhf hnx hct h1n h2n hl hM) gL_advanced_X5_advance rfl rfl rfl hdX5_advance ⟨(Nat.le_of_ble_eq_true rfl), (Nat.le_of_ble_eq_true rfl)⟩ 13 rfl rfl [] (fun u => kW κ Sa Ha Hs hf ra f9 a9 b9 p9 o9 u.2 (fwN nx) (mnN ct) (upS gh nx u.1)) zp_self (fun _ => zp_self') rfl (Nat.le_of_ble_eq_true rfl) dL_advanced_2 ⟨(Nat.le_of_ble_eq_true rfl), (Nat.le_of_ble_eq_true rfl)⟩ (fun u hu => ?_)
  exact zh_iret C hr9 hk u rfl hu (List.Perm.of_eq rfl) dL_advanced_5 (Nat.le_of_ble_eq_true rfl) (Nat.le_of_ble_eq_true rfl)
theorem hdL_advanced : yL_advanced.cls ≠ "java/lang/invoke/MethodHandle" ∧ yL_advanced.cls ≠ "java/lang/invoke/VarHandle" ∧ (parseMethodDescriptor yL_advanced.desc).map (fun d => d.parameters.length) = some 2 := by decide +kernel
set_option maxRecDepth 100000 in
set_option maxHeartbeats 4000000 in
theorem mL_advanced_no (l : Launch) (D : va_G) (κ : Nat → ClassId) (adK adV : Nat → Nat) (Sa : Nat → Nat) (g : Nat → Nat → Nat) (ra f9 h9 a9 b9 p9 o9 : Nat) (σ : Nat → Nat) (M : Nat) (x : Int32) (hls : l.stackTraces = false) (hr : Rep g σ) (hv : Inv M σ) (hx : inI x (nI 1) (nI 99) = false) : zH (aX adK adV) l yL_advanced wsL_advanced { frames := 7, cells := 1, slots := 6, locals := 124 } D (zTy κ) [.ref (ra), .int (x)] (SW κ Sa g ++ (RC ra (Sa 0) f9 h9 a9 b9 p9 o9)) (S := Unit) (fun _ => some (.int (-2))) (fun _ => True) (fun _ => SW κ Sa g ++ (RC ra (Sa 0) f9 h9 a9 b9 p9 o9)) 1 6 := by
  refine zH_of (cc := cL_advanced) (maxL := 3) (rt := some .int) (hh := [(0, 5, 6, 36), (0, 5, 10, 41)]) [(0, .ref (ra)), (1, .int (x))] (by decide +kernel) rfl (Nat.le_of_ble_eq_true rfl) rfl ?_
  intro p e s m args below meth c A C hr9 hk htab hX
  have C : zC p s m args c cL_advanced 3 wsL_advanced RL D (zTy κ) A := C
  refine z_aload_n C dL_advanced_0 0 rfl ?_
  refine z_iload_n C dL_advanced_1 1 rfl ?_
  refine zx_catchV C (aX_ok adK adV) hX (mX5_advance_no l D κ adK adV Sa g ra f9 h9 a9 b9 p9 o9 σ M x hls hr hv hx) gL_advanced_X5_advance rfl rfl rfl hdX5_advance ⟨(Nat.le_of_ble_eq_true rfl), (Nat.le_of_ble_eq_true rfl)⟩ 13 rfl rfl [] (fun _ => SW κ Sa g ++ (RC ra (Sa 0) f9 h9 a9 b9 p9 o9)) zp_self (fun _ => zp_self') rfl (Nat.le_of_ble_eq_true rfl) dL_advanced_2 ⟨(Nat.le_of_ble_eq_true rfl), (Nat.le_of_ble_eq_true rfl)⟩ [] ⟨0, 5, 6, 36⟩ [⟨0, 5, 10, 41⟩] htab (fun z hz => absurd hz List.not_mem_nil) (by decide) (by decide) (name := eIA) (show Cond.classLink RL 36 eIA ∈ wsL_advanced from by decide +kernel) (hX.2.2.1 (eIA, eIA) (by simp [nCs])) (fun u q hu => ?_)
  refine z_astore_n C [(2, .ref (q)), (0, .ref (ra)), (1, .int (x))] dL_advanced_6 (by decide) rfl ?_
  refine z_bipush (v := (-2)) C dL_advanced_7 (by decide) ?_
  exact zh_iret C hr9 hk u rfl hu (List.Perm.of_eq rfl) dL_advanced_9 (Nat.le_of_ble_eq_true rfl) (Nat.le_of_ble_eq_true rfl)
set_option maxRecDepth 100000 in
set_option maxHeartbeats 4000000 in
theorem mL_pulled_ok (l : Launch) (D : va_G) (κ : Nat → ClassId) (Sa Ha : Nat → Nat) (Hs : Nat → Nat → Nat) (hf : Nat → Option Nat) (ra f9 a9 b9 p9 o9 : Nat) (g : Nat → Nat → Nat) (nx ct : Nat) (gh : Nat → Nat → Nat → Nat) (σ : Nat → Nat) (M : Nat) (b : Nat) (hr : Rep g σ) (hv : Inv M σ) (hhf : ∀ j, j < 10 → hf j = some (Hs j 0)) (hnx : nx < 10) (hct : ct ≤ 10) (hb : b < σ 1) (h0 : rsn σ b = 0) (adK adV : Nat → Nat) : zH (aX adK adV) l yL_pulled wsL_pulled { frames := 4, cells := 0, slots := 0, locals := 91 } D (zTy κ) [.ref ra, .int (nI b)] (kW κ Sa Ha Hs hf ra f9 a9 b9 p9 o9 g nx ct gh) (S := (Nat → Nat → Nat) × (Nat → Nat → Nat)) (fun _ => some (.int (nI (sumL (fun i => upN σ (5 + 6 * b + 4) 1 (5 + 6 * i + 4)) (upN σ (5 + 6 * b + 4) 1 1))))) (fun u => Rep u.1 σ ∧ Rep u.2 (upN σ (5 + 6 * b + 4) 1)) (fun u => kW κ Sa Ha Hs hf ra f9 a9 b9 p9 o9 u.2 (fwN nx) (mnN ct) (upS gh nx u.1)) 0 0 := by
  refine zH_of (cc := cL_pulled) (maxL := 3) (rt := some .int) (hh := [(0, 5, 6, 34), (0, 5, 10, 41)]) [(0, .ref (ra)), (1, .int (nI b))] (by decide +kernel) rfl (Nat.le_of_ble_eq_true rfl) rfl ?_
  intro p e s m args below meth c A C hr9 hk htab hX
  have C : zC p s m args c cL_pulled 3 wsL_pulled RL D (zTy κ) A := C
  refine z_aload_n C dL_pulled_0 0 rfl ?_
  refine z_iload_n C dL_pulled_1 1 rfl ?_
  refine z_callV C (mX5_pull_ok l D κ Sa Ha Hs hf ra f9 a9 b9 p9 o9 g nx ct gh σ M b hr hv hhf hnx hct hb h0) gL_pulled_X5_pull rfl rfl rfl hdX5_pull ⟨(Nat.le_of_ble_eq_true rfl), (Nat.le_of_ble_eq_true rfl)⟩ 13 rfl rfl [] (fun u => kW κ Sa Ha Hs hf ra f9 a9 b9 p9 o9 u.2 (fwN nx) (mnN ct) (upS gh nx u.1)) zp_self (fun _ => zp_self') rfl (Nat.le_of_ble_eq_true rfl) dL_pulled_2 ⟨(Nat.le_of_ble_eq_true rfl), (Nat.le_of_ble_eq_true rfl)⟩ (fun u hu => ?_)
  exact zh_iret C hr9 hk u rfl hu (List.Perm.of_eq rfl) dL_pulled_5 (Nat.le_of_ble_eq_true rfl) (Nat.le_of_ble_eq_true rfl)
theorem hdL_pulled : yL_pulled.cls ≠ "java/lang/invoke/MethodHandle" ∧ yL_pulled.cls ≠ "java/lang/invoke/VarHandle" ∧ (parseMethodDescriptor yL_pulled.desc).map (fun d => d.parameters.length) = some 2 := by decide +kernel
set_option maxRecDepth 100000 in
set_option maxHeartbeats 4000000 in
theorem mL_pulled_no (l : Launch) (D : va_G) (κ : Nat → ClassId) (adK adV : Nat → Nat) (Sa : Nat → Nat) (g : Nat → Nat → Nat) (ra f9 h9 a9 b9 p9 o9 : Nat) (σ : Nat → Nat) (M : Nat) (x : Int32) (hls : l.stackTraces = false) (hr : Rep g σ) (hv : Inv M σ) (hx : isB (σ 1) x = false) : zH (aX adK adV) l yL_pulled wsL_pulled { frames := 8, cells := 1, slots := 6, locals := 124 } D (zTy κ) [.ref (ra), .int (x)] (SW κ Sa g ++ (RC ra (Sa 0) f9 h9 a9 b9 p9 o9)) (S := Unit) (fun _ => some (.int (-5))) (fun _ => True) (fun _ => SW κ Sa g ++ (RC ra (Sa 0) f9 h9 a9 b9 p9 o9)) 1 6 := by
  refine zH_of (cc := cL_pulled) (maxL := 3) (rt := some .int) (hh := [(0, 5, 6, 34), (0, 5, 10, 41)]) [(0, .ref (ra)), (1, .int (x))] (by decide +kernel) rfl (Nat.le_of_ble_eq_true rfl) rfl ?_
  intro p e s m args below meth c A C hr9 hk htab hX
  have C : zC p s m args c cL_pulled 3 wsL_pulled RL D (zTy κ) A := C
  refine z_aload_n C dL_pulled_0 0 rfl ?_
  refine z_iload_n C dL_pulled_1 1 rfl ?_
  refine zx_catchV C (aX_ok adK adV) hX (mX5_pull_no l D κ adK adV Sa g ra f9 h9 a9 b9 p9 o9 σ M x hls hr hv hx) gL_pulled_X5_pull rfl rfl rfl hdX5_pull ⟨(Nat.le_of_ble_eq_true rfl), (Nat.le_of_ble_eq_true rfl)⟩ 13 rfl rfl [] (fun _ => SW κ Sa g ++ (RC ra (Sa 0) f9 h9 a9 b9 p9 o9)) zp_self (fun _ => zp_self') rfl (Nat.le_of_ble_eq_true rfl) dL_pulled_2 ⟨(Nat.le_of_ble_eq_true rfl), (Nat.le_of_ble_eq_true rfl)⟩ [] ⟨0, 5, 6, 34⟩ [⟨0, 5, 10, 41⟩] htab (fun z hz => absurd hz List.not_mem_nil) (by decide) (by decide) (name := eIB) (show Cond.classLink RL 34 eIB ∈ wsL_pulled from by decide +kernel) (hX.2.2.1 (eIB, eIB) (by simp [nCs])) (fun u q hu => ?_)
  refine z_astore_n C [(2, .ref (q)), (0, .ref (ra)), (1, .int (x))] dL_pulled_6 (by decide) rfl ?_
  refine z_bipush (v := (-5)) C dL_pulled_7 (by decide) ?_
  exact zh_iret C hr9 hk u rfl hu (List.Perm.of_eq rfl) dL_pulled_9 (Nat.le_of_ble_eq_true rfl) (Nat.le_of_ble_eq_true rfl)
set_option maxRecDepth 100000 in
set_option maxHeartbeats 4000000 in
theorem mL_pulled_bad (l : Launch) (D : va_G) (κ : Nat → ClassId) (adK adV : Nat → Nat) (Sa : Nat → Nat) (g : Nat → Nat → Nat) (ra f9 h9 a9 b9 p9 o9 : Nat) (σ : Nat → Nat) (M : Nat) (b : Nat) (hls : l.stackTraces = false) (hr : Rep g σ) (hv : Inv M σ) (hb : b < σ 1) (h0 : rsn σ b ≠ 0) : zH (aX adK adV) l yL_pulled wsL_pulled { frames := 7, cells := 1, slots := 6, locals := 124 } D (zTy κ) [.ref (ra), .int (nI b)] (SW κ Sa g ++ (RC ra (Sa 0) f9 h9 a9 b9 p9 o9)) (S := Unit) (fun _ => some (.int (-3))) (fun _ => True) (fun _ => SW κ Sa g ++ (RC ra (Sa 0) f9 h9 a9 b9 p9 o9)) 1 6 := by
  refine zH_of (cc := cL_pulled) (maxL := 3) (rt := some .int) (hh := [(0, 5, 6, 34), (0, 5, 10, 41)]) [(0, .ref (ra)), (1, .int (nI b))] (by decide +kernel) rfl (Nat.le_of_ble_eq_true rfl) rfl ?_
  intro p e s m args below meth c A C hr9 hk htab hX
  have C : zC p s m args c cL_pulled 3 wsL_pulled RL D (zTy κ) A := C
  refine z_aload_n C dL_pulled_0 0 rfl ?_
  refine z_iload_n C dL_pulled_1 1 rfl ?_
  refine zx_catchV C (aX_ok adK adV) hX (mX5_pull_bad l D κ adK adV Sa g ra f9 h9 a9 b9 p9 o9 σ M b hls hr hv hb h0) gL_pulled_X5_pull rfl rfl rfl hdX5_pull ⟨(Nat.le_of_ble_eq_true rfl), (Nat.le_of_ble_eq_true rfl)⟩ 13 rfl rfl [] (fun _ => SW κ Sa g ++ (RC ra (Sa 0) f9 h9 a9 b9 p9 o9)) zp_self (fun _ => zp_self') rfl (Nat.le_of_ble_eq_true rfl) dL_pulled_2 ⟨(Nat.le_of_ble_eq_true rfl), (Nat.le_of_ble_eq_true rfl)⟩ [⟨0, 5, 6, 34⟩] ⟨0, 5, 10, 41⟩ [] htab (fun z hz => by
      simp only [List.mem_cons, List.not_mem_nil, or_false] at hz
      rcases hz with rfl
      · exact Or.inr ⟨by decide, eIB, by decide +kernel, hX.2.2.2.1 (eIS, eIB) (by simp [nNs])⟩) (by decide) (by decide) (name := eIS) (show Cond.classLink RL 41 eIS ∈ wsL_pulled from by decide +kernel) (hX.2.2.1 (eIS, eIS) (by simp [nCs])) (fun u q hu => ?_)
  refine z_astore_n C [(2, .ref (q)), (0, .ref (ra)), (1, .int (nI b))] dL_pulled_10 (by decide) rfl ?_
  refine z_bipush (v := (-3)) C dL_pulled_11 (by decide) ?_
  exact zh_iret C hr9 hk u rfl hu (List.Perm.of_eq rfl) dL_pulled_13 (Nat.le_of_ble_eq_true rfl) (Nat.le_of_ble_eq_true rfl)
set_option maxRecDepth 100000 in
set_option maxHeartbeats 4000000 in
theorem mL_stopped_ok (l : Launch) (D : va_G) (κ : Nat → ClassId) (Sa Ha : Nat → Nat) (Hs : Nat → Nat → Nat) (hf : Nat → Option Nat) (ra f9 a9 b9 p9 o9 : Nat) (g : Nat → Nat → Nat) (nx ct : Nat) (gh : Nat → Nat → Nat → Nat) (σ : Nat → Nat) (M : Nat) (b : Nat) (hr : Rep g σ) (hv : Inv M σ) (hhf : ∀ j, j < 10 → hf j = some (Hs j 0)) (hnx : nx < 10) (hct : ct ≤ 10) (hb : b < σ 1) (h0 : 0 < σ (5 + 6 * b + 4)) (adK adV : Nat → Nat) : zH (aX adK adV) l yL_stopped wsL_stopped { frames := 4, cells := 0, slots := 0, locals := 91 } D (zTy κ) [.ref ra, .int (nI b)] (kW κ Sa Ha Hs hf ra f9 a9 b9 p9 o9 g nx ct gh) (S := (Nat → Nat → Nat) × (Nat → Nat → Nat)) (fun _ => some (.int (nI (sumL (fun i => upN σ (5 + 6 * b + 4) 0 (5 + 6 * i + 4)) (upN σ (5 + 6 * b + 4) 0 1))))) (fun u => Rep u.1 σ ∧ Rep u.2 (upN σ (5 + 6 * b + 4) 0)) (fun u => kW κ Sa Ha Hs hf ra f9 a9 b9 p9 o9 u.2 (fwN nx) (mnN ct) (upS gh nx u.1)) 0 0 := by
  refine zH_of (cc := cL_stopped) (maxL := 3) (rt := some .int) (hh := [(0, 5, 6, 34), (0, 5, 10, 41)]) [(0, .ref (ra)), (1, .int (nI b))] (by decide +kernel) rfl (Nat.le_of_ble_eq_true rfl) rfl ?_
  intro p e s m args below meth c A C hr9 hk htab hX
  have C : zC p s m args c cL_stopped 3 wsL_stopped RL D (zTy κ) A := C
  refine z_aload_n C dL_stopped_0 0 rfl ?_
  refine z_iload_n C dL_stopped_1 1 rfl ?_
  refine z_callV C (mX5_setDanger_ok l D κ Sa Ha Hs hf ra f9 a9 b9 p9 o9 g nx ct gh σ M b hr hv hhf hnx hct hb h0) gL_stopped_X5_setDanger rfl rfl rfl hdX5_setDanger ⟨(Nat.le_of_ble_eq_true rfl), (Nat.le_of_ble_eq_true rfl)⟩ 13 rfl rfl [] (fun u => kW κ Sa Ha Hs hf ra f9 a9 b9 p9 o9 u.2 (fwN nx) (mnN ct) (upS gh nx u.1)) zp_self (fun _ => zp_self') rfl (Nat.le_of_ble_eq_true rfl) dL_stopped_2 ⟨(Nat.le_of_ble_eq_true rfl), (Nat.le_of_ble_eq_true rfl)⟩ (fun u hu => ?_)
  exact zh_iret C hr9 hk u rfl hu (List.Perm.of_eq rfl) dL_stopped_5 (Nat.le_of_ble_eq_true rfl) (Nat.le_of_ble_eq_true rfl)
theorem hdL_stopped : yL_stopped.cls ≠ "java/lang/invoke/MethodHandle" ∧ yL_stopped.cls ≠ "java/lang/invoke/VarHandle" ∧ (parseMethodDescriptor yL_stopped.desc).map (fun d => d.parameters.length) = some 2 := by decide +kernel
set_option maxRecDepth 100000 in
set_option maxHeartbeats 4000000 in
theorem mL_stopped_no (l : Launch) (D : va_G) (κ : Nat → ClassId) (adK adV : Nat → Nat) (Sa : Nat → Nat) (g : Nat → Nat → Nat) (ra f9 h9 a9 b9 p9 o9 : Nat) (σ : Nat → Nat) (M : Nat) (x : Int32) (hls : l.stackTraces = false) (hr : Rep g σ) (hv : Inv M σ) (hx : isB (σ 1) x = false) : zH (aX adK adV) l yL_stopped wsL_stopped { frames := 8, cells := 1, slots := 6, locals := 124 } D (zTy κ) [.ref (ra), .int (x)] (SW κ Sa g ++ (RC ra (Sa 0) f9 h9 a9 b9 p9 o9)) (S := Unit) (fun _ => some (.int (-5))) (fun _ => True) (fun _ => SW κ Sa g ++ (RC ra (Sa 0) f9 h9 a9 b9 p9 o9)) 1 6 := by
  refine zH_of (cc := cL_stopped) (maxL := 3) (rt := some .int) (hh := [(0, 5, 6, 34), (0, 5, 10, 41)]) [(0, .ref (ra)), (1, .int (x))] (by decide +kernel) rfl (Nat.le_of_ble_eq_true rfl) rfl ?_
  intro p e s m args below meth c A C hr9 hk htab hX
  have C : zC p s m args c cL_stopped 3 wsL_stopped RL D (zTy κ) A := C
  refine z_aload_n C dL_stopped_0 0 rfl ?_
  refine z_iload_n C dL_stopped_1 1 rfl ?_
  refine zx_catchV C (aX_ok adK adV) hX (mX5_setDanger_no l D κ adK adV Sa g ra f9 h9 a9 b9 p9 o9 σ M x hls hr hv hx) gL_stopped_X5_setDanger rfl rfl rfl hdX5_setDanger ⟨(Nat.le_of_ble_eq_true rfl), (Nat.le_of_ble_eq_true rfl)⟩ 13 rfl rfl [] (fun _ => SW κ Sa g ++ (RC ra (Sa 0) f9 h9 a9 b9 p9 o9)) zp_self (fun _ => zp_self') rfl (Nat.le_of_ble_eq_true rfl) dL_stopped_2 ⟨(Nat.le_of_ble_eq_true rfl), (Nat.le_of_ble_eq_true rfl)⟩ [] ⟨0, 5, 6, 34⟩ [⟨0, 5, 10, 41⟩] htab (fun z hz => absurd hz List.not_mem_nil) (by decide) (by decide) (name := eIB) (show Cond.classLink RL 34 eIB ∈ wsL_stopped from by decide +kernel) (hX.2.2.1 (eIB, eIB) (by simp [nCs])) (fun u q hu => ?_)
  refine z_astore_n C [(2, .ref (q)), (0, .ref (ra)), (1, .int (x))] dL_stopped_6 (by decide) rfl ?_
  refine z_bipush (v := (-5)) C dL_stopped_7 (by decide) ?_
  exact zh_iret C hr9 hk u rfl hu (List.Perm.of_eq rfl) dL_stopped_9 (Nat.le_of_ble_eq_true rfl) (Nat.le_of_ble_eq_true rfl)
set_option maxRecDepth 100000 in
set_option maxHeartbeats 4000000 in
theorem mL_stopped_bad (l : Launch) (D : va_G) (κ : Nat → ClassId) (adK adV : Nat → Nat) (Sa : Nat → Nat) (g : Nat → Nat → Nat) (ra f9 h9 a9 b9 p9 o9 : Nat) (σ : Nat → Nat) (M : Nat) (b : Nat) (hls : l.stackTraces = false) (hr : Rep g σ) (hv : Inv M σ) (hb : b < σ 1) (h0 : σ (5 + 6 * b + 4) = 0) : zH (aX adK adV) l yL_stopped wsL_stopped { frames := 7, cells := 1, slots := 6, locals := 124 } D (zTy κ) [.ref (ra), .int (nI b)] (SW κ Sa g ++ (RC ra (Sa 0) f9 h9 a9 b9 p9 o9)) (S := Unit) (fun _ => some (.int (-3))) (fun _ => True) (fun _ => SW κ Sa g ++ (RC ra (Sa 0) f9 h9 a9 b9 p9 o9)) 1 6 := by
  refine zH_of (cc := cL_stopped) (maxL := 3) (rt := some .int) (hh := [(0, 5, 6, 34), (0, 5, 10, 41)]) [(0, .ref (ra)), (1, .int (nI b))] (by decide +kernel) rfl (Nat.le_of_ble_eq_true rfl) rfl ?_
  intro p e s m args below meth c A C hr9 hk htab hX
  have C : zC p s m args c cL_stopped 3 wsL_stopped RL D (zTy κ) A := C
  refine z_aload_n C dL_stopped_0 0 rfl ?_
  refine z_iload_n C dL_stopped_1 1 rfl ?_
  refine zx_catchV C (aX_ok adK adV) hX (mX5_setDanger_bad l D κ adK adV Sa g ra f9 h9 a9 b9 p9 o9 σ M b hls hr hv hb h0) gL_stopped_X5_setDanger rfl rfl rfl hdX5_setDanger ⟨(Nat.le_of_ble_eq_true rfl), (Nat.le_of_ble_eq_true rfl)⟩ 13 rfl rfl [] (fun _ => SW κ Sa g ++ (RC ra (Sa 0) f9 h9 a9 b9 p9 o9)) zp_self (fun _ => zp_self') rfl (Nat.le_of_ble_eq_true rfl) dL_stopped_2 ⟨(Nat.le_of_ble_eq_true rfl), (Nat.le_of_ble_eq_true rfl)⟩ [⟨0, 5, 6, 34⟩] ⟨0, 5, 10, 41⟩ [] htab (fun z hz => by
      simp only [List.mem_cons, List.not_mem_nil, or_false] at hz
      rcases hz with rfl
      · exact Or.inr ⟨by decide, eIB, by decide +kernel, hX.2.2.2.1 (eIS, eIB) (by simp [nNs])⟩) (by decide) (by decide) (name := eIS) (show Cond.classLink RL 41 eIS ∈ wsL_stopped from by decide +kernel) (hX.2.2.1 (eIS, eIS) (by simp [nCs])) (fun u q hu => ?_)
  refine z_astore_n C [(2, .ref (q)), (0, .ref (ra)), (1, .int (nI b))] dL_stopped_10 (by decide) rfl ?_
  refine z_bipush (v := (-3)) C dL_stopped_11 (by decide) ?_
  exact zh_iret C hr9 hk u rfl hu (List.Perm.of_eq rfl) dL_stopped_13 (Nat.le_of_ble_eq_true rfl) (Nat.le_of_ble_eq_true rfl)
set_option maxRecDepth 100000 in
set_option maxHeartbeats 4000000 in
theorem mL_repaired_ok (l : Launch) (D : va_G) (κ : Nat → ClassId) (Sa Ha : Nat → Nat) (Hs : Nat → Nat → Nat) (hf : Nat → Option Nat) (ra f9 a9 b9 p9 o9 : Nat) (g : Nat → Nat → Nat) (nx ct : Nat) (gh : Nat → Nat → Nat → Nat) (σ : Nat → Nat) (M : Nat) (b : Nat) (hr : Rep g σ) (hv : Inv M σ) (hhf : ∀ j, j < 10 → hf j = some (Hs j 0)) (hnx : nx < 10) (hct : ct ≤ 10) (hb : b < σ 1) (h0 : trAt σ b = 0) (adK adV : Nat → Nat) : zH (aX adK adV) l yL_repaired wsL_repaired { frames := 4, cells := 0, slots := 0, locals := 92 } D (zTy κ) [.ref ra, .int (nI b)] (kW κ Sa Ha Hs hf ra f9 a9 b9 p9 o9 g nx ct gh) (S := (Nat → Nat → Nat) × (Nat → Nat → Nat)) (fun _ => some (.int (nI (σ (5 + 6 * b + 1))))) (fun u => Rep u.1 σ ∧ Rep u.2 (upN σ (5 + 6 * b + 1) 0)) (fun u => kW κ Sa Ha Hs hf ra f9 a9 b9 p9 o9 u.2 (fwN nx) (mnN ct) (upS gh nx u.1)) 0 0 := by
  refine zH_of (cc := cL_repaired) (maxL := 3) (rt := some .int) (hh := [(0, 5, 6, 34), (0, 5, 10, 41)]) [(0, .ref (ra)), (1, .int (nI b))] (by decide +kernel) rfl (Nat.le_of_ble_eq_true rfl) rfl ?_
  intro p e s m args below meth c A C hr9 hk htab hX
  have C : zC p s m args c cL_repaired 3 wsL_repaired RL D (zTy κ) A := C
  refine z_aload_n C dL_repaired_0 0 rfl ?_
  refine z_iload_n C dL_repaired_1 1 rfl ?_
  refine z_callV C (mX5_repair_ok l D κ Sa Ha Hs hf ra f9 a9 b9 p9 o9 g nx ct gh σ M b hr hv hhf hnx hct hb h0) gL_repaired_X5_repair rfl rfl rfl hdX5_repair ⟨(Nat.le_of_ble_eq_true rfl), (Nat.le_of_ble_eq_true rfl)⟩ 13 rfl rfl [] (fun u => kW κ Sa Ha Hs hf ra f9 a9 b9 p9 o9 u.2 (fwN nx) (mnN ct) (upS gh nx u.1)) zp_self (fun _ => zp_self') rfl (Nat.le_of_ble_eq_true rfl) dL_repaired_2 ⟨(Nat.le_of_ble_eq_true rfl), (Nat.le_of_ble_eq_true rfl)⟩ (fun u hu => ?_)
  exact zh_iret C hr9 hk u rfl hu (List.Perm.of_eq rfl) dL_repaired_5 (Nat.le_of_ble_eq_true rfl) (Nat.le_of_ble_eq_true rfl)
theorem hdL_repaired : yL_repaired.cls ≠ "java/lang/invoke/MethodHandle" ∧ yL_repaired.cls ≠ "java/lang/invoke/VarHandle" ∧ (parseMethodDescriptor yL_repaired.desc).map (fun d => d.parameters.length) = some 2 := by decide +kernel
set_option maxRecDepth 100000 in
set_option maxHeartbeats 4000000 in
theorem mL_repaired_no (l : Launch) (D : va_G) (κ : Nat → ClassId) (adK adV : Nat → Nat) (Sa : Nat → Nat) (g : Nat → Nat → Nat) (ra f9 h9 a9 b9 p9 o9 : Nat) (σ : Nat → Nat) (M : Nat) (x : Int32) (hls : l.stackTraces = false) (hr : Rep g σ) (hv : Inv M σ) (hx : isB (σ 1) x = false) : zH (aX adK adV) l yL_repaired wsL_repaired { frames := 8, cells := 1, slots := 6, locals := 125 } D (zTy κ) [.ref (ra), .int (x)] (SW κ Sa g ++ (RC ra (Sa 0) f9 h9 a9 b9 p9 o9)) (S := Unit) (fun _ => some (.int (-5))) (fun _ => True) (fun _ => SW κ Sa g ++ (RC ra (Sa 0) f9 h9 a9 b9 p9 o9)) 1 6 := by
  refine zH_of (cc := cL_repaired) (maxL := 3) (rt := some .int) (hh := [(0, 5, 6, 34), (0, 5, 10, 41)]) [(0, .ref (ra)), (1, .int (x))] (by decide +kernel) rfl (Nat.le_of_ble_eq_true rfl) rfl ?_
  intro p e s m args below meth c A C hr9 hk htab hX
  have C : zC p s m args c cL_repaired 3 wsL_repaired RL D (zTy κ) A := C
  refine z_aload_n C dL_repaired_0 0 rfl ?_
  refine z_iload_n C dL_repaired_1 1 rfl ?_
  refine zx_catchV C (aX_ok adK adV) hX (mX5_repair_no l D κ adK adV Sa g ra f9 h9 a9 b9 p9 o9 σ M x hls hr hv hx) gL_repaired_X5_repair rfl rfl rfl hdX5_repair ⟨(Nat.le_of_ble_eq_true rfl), (Nat.le_of_ble_eq_true rfl)⟩ 13 rfl rfl [] (fun _ => SW κ Sa g ++ (RC ra (Sa 0) f9 h9 a9 b9 p9 o9)) zp_self (fun _ => zp_self') rfl (Nat.le_of_ble_eq_true rfl) dL_repaired_2 ⟨(Nat.le_of_ble_eq_true rfl), (Nat.le_of_ble_eq_true rfl)⟩ [] ⟨0, 5, 6, 34⟩ [⟨0, 5, 10, 41⟩] htab (fun z hz => absurd hz List.not_mem_nil) (by decide) (by decide) (name := eIB) (show Cond.classLink RL 34 eIB ∈ wsL_repaired from by decide +kernel) (hX.2.2.1 (eIB, eIB) (by simp [nCs])) (fun u q hu => ?_)
  refine z_astore_n C [(2, .ref (q)), (0, .ref (ra)), (1, .int (x))] dL_repaired_6 (by decide) rfl ?_
  refine z_bipush (v := (-5)) C dL_repaired_7 (by decide) ?_
  exact zh_iret C hr9 hk u rfl hu (List.Perm.of_eq rfl) dL_repaired_9 (Nat.le_of_ble_eq_true rfl) (Nat.le_of_ble_eq_true rfl)
set_option maxRecDepth 100000 in
set_option maxHeartbeats 4000000 in
theorem mL_repaired_bad (l : Launch) (D : va_G) (κ : Nat → ClassId) (adK adV : Nat → Nat) (Sa : Nat → Nat) (g : Nat → Nat → Nat) (ra f9 h9 a9 b9 p9 o9 : Nat) (σ : Nat → Nat) (M : Nat) (b : Nat) (hls : l.stackTraces = false) (hr : Rep g σ) (hv : Inv M σ) (hb : b < σ 1) (h0 : trAt σ b ≠ 0) : zH (aX adK adV) l yL_repaired wsL_repaired { frames := 7, cells := 1, slots := 6, locals := 125 } D (zTy κ) [.ref (ra), .int (nI b)] (SW κ Sa g ++ (RC ra (Sa 0) f9 h9 a9 b9 p9 o9)) (S := Unit) (fun _ => some (.int (-3))) (fun _ => True) (fun _ => SW κ Sa g ++ (RC ra (Sa 0) f9 h9 a9 b9 p9 o9)) 1 6 := by
  refine zH_of (cc := cL_repaired) (maxL := 3) (rt := some .int) (hh := [(0, 5, 6, 34), (0, 5, 10, 41)]) [(0, .ref (ra)), (1, .int (nI b))] (by decide +kernel) rfl (Nat.le_of_ble_eq_true rfl) rfl ?_
  intro p e s m args below meth c A C hr9 hk htab hX
  have C : zC p s m args c cL_repaired 3 wsL_repaired RL D (zTy κ) A := C
  refine z_aload_n C dL_repaired_0 0 rfl ?_
  refine z_iload_n C dL_repaired_1 1 rfl ?_
  refine zx_catchV C (aX_ok adK adV) hX (mX5_repair_bad l D κ adK adV Sa g ra f9 h9 a9 b9 p9 o9 σ M b hls hr hv hb h0) gL_repaired_X5_repair rfl rfl rfl hdX5_repair ⟨(Nat.le_of_ble_eq_true rfl), (Nat.le_of_ble_eq_true rfl)⟩ 13 rfl rfl [] (fun _ => SW κ Sa g ++ (RC ra (Sa 0) f9 h9 a9 b9 p9 o9)) zp_self (fun _ => zp_self') rfl (Nat.le_of_ble_eq_true rfl) dL_repaired_2 ⟨(Nat.le_of_ble_eq_true rfl), (Nat.le_of_ble_eq_true rfl)⟩ [⟨0, 5, 6, 34⟩] ⟨0, 5, 10, 41⟩ [] htab (fun z hz => by
      simp only [List.mem_cons, List.not_mem_nil, or_false] at hz
      rcases hz with rfl
      · exact Or.inr ⟨by decide, eIB, by decide +kernel, hX.2.2.2.1 (eIS, eIB) (by simp [nNs])⟩) (by decide) (by decide) (name := eIS) (show Cond.classLink RL 41 eIS ∈ wsL_repaired from by decide +kernel) (hX.2.2.1 (eIS, eIS) (by simp [nCs])) (fun u q hu => ?_)
  refine z_astore_n C [(2, .ref (q)), (0, .ref (ra)), (1, .int (nI b))] dL_repaired_10 (by decide) rfl ?_
  refine z_bipush (v := (-3)) C dL_repaired_11 (by decide) ?_
  exact zh_iret C hr9 hk u rfl hu (List.Perm.of_eq rfl) dL_repaired_13 (Nat.le_of_ble_eq_true rfl) (Nat.le_of_ble_eq_true rfl)
set_option maxRecDepth 100000 in
set_option maxHeartbeats 4000000 in
theorem mL_removed_ok (l : Launch) (D : va_G) (κ : Nat → ClassId) (Sa Ha : Nat → Nat) (Hs : Nat → Nat → Nat) (hf : Nat → Option Nat) (ra f9 a9 b9 p9 o9 : Nat) (g : Nat → Nat → Nat) (nx ct : Nat) (gh : Nat → Nat → Nat → Nat) (σ : Nat → Nat) (M : Nat) (b : Nat) (hr : Rep g σ) (hv : Inv M σ) (hhf : ∀ j, j < 10 → hf j = some (Hs j 0)) (hnx : nx < 10) (hct : ct ≤ 10) (hb : b < σ 1) (adK adV : Nat → Nat) : zH (aX adK adV) l yL_removed wsL_removed { frames := 4, cells := 0, slots := 0, locals := 92 } D (zTy κ) [.ref ra, .int (nI b)] (kW κ Sa Ha Hs hf ra f9 a9 b9 p9 o9 g nx ct gh) (S := (Nat → Nat → Nat) × (Nat → Nat → Nat)) (fun _ => some (.int (nI (σ (5 + 6 * b + 5))))) (fun u => Rep u.1 σ ∧ Rep u.2 (upN (upN σ (5 + 6 * b + 5) 0) 3 (σ 3 + σ (5 + 6 * b + 5)))) (fun u => kW κ Sa Ha Hs hf ra f9 a9 b9 p9 o9 u.2 (fwN nx) (mnN ct) (upS gh nx u.1)) 0 0 := by
  refine zH_of (cc := cL_removed) (maxL := 3) (rt := some .int) (hh := [(0, 5, 6, 34)]) [(0, .ref (ra)), (1, .int (nI b))] (by decide +kernel) rfl (Nat.le_of_ble_eq_true rfl) rfl ?_
  intro p e s m args below meth c A C hr9 hk htab hX
  have C : zC p s m args c cL_removed 3 wsL_removed RL D (zTy κ) A := C
  refine z_aload_n C dL_removed_0 0 rfl ?_
  refine z_iload_n C dL_removed_1 1 rfl ?_
  refine z_callV C (mX5_removeWagons_ok l D κ Sa Ha Hs hf ra f9 a9 b9 p9 o9 g nx ct gh σ M b hr hv hhf hnx hct hb) gL_removed_X5_removeWagons rfl rfl rfl hdX5_removeWagons ⟨(Nat.le_of_ble_eq_true rfl), (Nat.le_of_ble_eq_true rfl)⟩ 13 rfl rfl [] (fun u => kW κ Sa Ha Hs hf ra f9 a9 b9 p9 o9 u.2 (fwN nx) (mnN ct) (upS gh nx u.1)) zp_self (fun _ => zp_self') rfl (Nat.le_of_ble_eq_true rfl) dL_removed_2 ⟨(Nat.le_of_ble_eq_true rfl), (Nat.le_of_ble_eq_true rfl)⟩ (fun u hu => ?_)
  exact zh_iret C hr9 hk u rfl hu (List.Perm.of_eq rfl) dL_removed_5 (Nat.le_of_ble_eq_true rfl) (Nat.le_of_ble_eq_true rfl)
theorem hdL_removed : yL_removed.cls ≠ "java/lang/invoke/MethodHandle" ∧ yL_removed.cls ≠ "java/lang/invoke/VarHandle" ∧ (parseMethodDescriptor yL_removed.desc).map (fun d => d.parameters.length) = some 2 := by decide +kernel
set_option maxRecDepth 100000 in
set_option maxHeartbeats 4000000 in
theorem mL_removed_no (l : Launch) (D : va_G) (κ : Nat → ClassId) (adK adV : Nat → Nat) (Sa : Nat → Nat) (g : Nat → Nat → Nat) (ra f9 h9 a9 b9 p9 o9 : Nat) (σ : Nat → Nat) (M : Nat) (x : Int32) (hls : l.stackTraces = false) (hr : Rep g σ) (hv : Inv M σ) (hx : isB (σ 1) x = false) : zH (aX adK adV) l yL_removed wsL_removed { frames := 8, cells := 1, slots := 6, locals := 125 } D (zTy κ) [.ref (ra), .int (x)] (SW κ Sa g ++ (RC ra (Sa 0) f9 h9 a9 b9 p9 o9)) (S := Unit) (fun _ => some (.int (-5))) (fun _ => True) (fun _ => SW κ Sa g ++ (RC ra (Sa 0) f9 h9 a9 b9 p9 o9)) 1 6 := by
  refine zH_of (cc := cL_removed) (maxL := 3) (rt := some .int) (hh := [(0, 5, 6, 34)]) [(0, .ref (ra)), (1, .int (x))] (by decide +kernel) rfl (Nat.le_of_ble_eq_true rfl) rfl ?_
  intro p e s m args below meth c A C hr9 hk htab hX
  have C : zC p s m args c cL_removed 3 wsL_removed RL D (zTy κ) A := C
  refine z_aload_n C dL_removed_0 0 rfl ?_
  refine z_iload_n C dL_removed_1 1 rfl ?_
  refine zx_catchV C (aX_ok adK adV) hX (mX5_removeWagons_no l D κ adK adV Sa g ra f9 h9 a9 b9 p9 o9 σ M x hls hr hv hx) gL_removed_X5_removeWagons rfl rfl rfl hdX5_removeWagons ⟨(Nat.le_of_ble_eq_true rfl), (Nat.le_of_ble_eq_true rfl)⟩ 13 rfl rfl [] (fun _ => SW κ Sa g ++ (RC ra (Sa 0) f9 h9 a9 b9 p9 o9)) zp_self (fun _ => zp_self') rfl (Nat.le_of_ble_eq_true rfl) dL_removed_2 ⟨(Nat.le_of_ble_eq_true rfl), (Nat.le_of_ble_eq_true rfl)⟩ [] ⟨0, 5, 6, 34⟩ [] htab (fun z hz => absurd hz List.not_mem_nil) (by decide) (by decide) (name := eIB) (show Cond.classLink RL 34 eIB ∈ wsL_removed from by decide +kernel) (hX.2.2.1 (eIB, eIB) (by simp [nCs])) (fun u q hu => ?_)
  refine z_astore_n C [(2, .ref (q)), (0, .ref (ra)), (1, .int (x))] dL_removed_6 (by decide) rfl ?_
  refine z_bipush (v := (-5)) C dL_removed_7 (by decide) ?_
  exact zh_iret C hr9 hk u rfl hu (List.Perm.of_eq rfl) dL_removed_9 (Nat.le_of_ble_eq_true rfl) (Nat.le_of_ble_eq_true rfl)
set_option maxRecDepth 100000 in
set_option maxHeartbeats 4000000 in
theorem mL_added_ok (l : Launch) (D : va_G) (κ : Nat → ClassId) (Sa Ha : Nat → Nat) (Hs : Nat → Nat → Nat) (hf : Nat → Option Nat) (ra f9 a9 b9 p9 o9 : Nat) (g : Nat → Nat → Nat) (nx ct : Nat) (gh : Nat → Nat → Nat → Nat) (σ : Nat → Nat) (M : Nat) (b n : Nat) (hr : Rep g σ) (hv : Inv M σ) (hhf : ∀ j, j < 10 → hf j = some (Hs j 0)) (hnx : nx < 10) (hct : ct ≤ 10) (hb : b < σ 2) (h1n : 1 ≤ n) (h2n : n ≤ 11) (hl : σ (65 + 5 * b + 0) + n ≤ 12) (adK adV : Nat → Nat) : zH (aX adK adV) l yL_added wsL_added { frames := 4, cells := 0, slots := 0, locals := 92 } D (zTy κ) [.ref ra, .int (nI b), .int (nI n)] (kW κ Sa Ha Hs hf ra f9 a9 b9 p9 o9 g nx ct gh) (S := (Nat → Nat → Nat) × (Nat → Nat → Nat)) (fun _ => some (.int (nI (σ (65 + 5 * b + 0) + n)))) (fun u => Rep u.1 σ ∧ Rep u.2 (upN (upN σ (65 + 5 * b + 0) (σ (65 + 5 * b + 0) + n)) 4 (σ 4 + n))) (fun u => kW κ Sa Ha Hs hf ra f9 a9 b9 p9 o9 u.2 (fwN nx) (mnN ct) (upS gh nx u.1)) 0 0 := by
  refine zH_of (cc := cL_added) (maxL := 4) (rt := some .int) (hh := [(0, 6, 7, 34), (0, 6, 11, 36), (0, 6, 15, 41)]) [(0, .ref (ra)), (1, .int (nI b)), (2, .int (nI n))] (by decide +kernel) rfl (Nat.le_of_ble_eq_true rfl) rfl ?_
  intro p e s m args below meth c A C hr9 hk htab hX
  have C : zC p s m args c cL_added 4 wsL_added RL D (zTy κ) A := C
  refine z_aload_n C dL_added_0 0 rfl ?_
  refine z_iload_n C dL_added_1 1 rfl ?_
  refine z_iload_n C dL_added_2 2 rfl ?_
  refine z_callV C (mX5_addWagons_ok l D κ Sa Ha Hs hf ra f9 a9 b9 p9 o9 g nx ct gh σ M b n hr hv hhf hnx hct hb h1n h2n hl) gL_added_X5_addWagons rfl rfl rfl hdX5_addWagons ⟨(Nat.le_of_ble_eq_true rfl), (Nat.le_of_ble_eq_true rfl)⟩ 13 rfl rfl [] (fun u => kW κ Sa Ha Hs hf ra f9 a9 b9 p9 o9 u.2 (fwN nx) (mnN ct) (upS gh nx u.1)) zp_self (fun _ => zp_self') rfl (Nat.le_of_ble_eq_true rfl) dL_added_3 ⟨(Nat.le_of_ble_eq_true rfl), (Nat.le_of_ble_eq_true rfl)⟩ (fun u hu => ?_)
  exact zh_iret C hr9 hk u rfl hu (List.Perm.of_eq rfl) dL_added_6 (Nat.le_of_ble_eq_true rfl) (Nat.le_of_ble_eq_true rfl)
theorem hdL_added : yL_added.cls ≠ "java/lang/invoke/MethodHandle" ∧ yL_added.cls ≠ "java/lang/invoke/VarHandle" ∧ (parseMethodDescriptor yL_added.desc).map (fun d => d.parameters.length) = some 3 := by decide +kernel
set_option maxRecDepth 100000 in
set_option maxHeartbeats 4000000 in
theorem mL_added_no (l : Launch) (D : va_G) (κ : Nat → ClassId) (adK adV : Nat → Nat) (Sa : Nat → Nat) (g : Nat → Nat → Nat) (ra f9 h9 a9 b9 p9 o9 : Nat) (σ : Nat → Nat) (M : Nat) (x y : Int32) (hls : l.stackTraces = false) (hr : Rep g σ) (hv : Inv M σ) (hx : isB (σ 2) x = false) : zH (aX adK adV) l yL_added wsL_added { frames := 8, cells := 1, slots := 6, locals := 125 } D (zTy κ) [.ref (ra), .int (x), .int (y)] (SW κ Sa g ++ (RC ra (Sa 0) f9 h9 a9 b9 p9 o9)) (S := Unit) (fun _ => some (.int (-5))) (fun _ => True) (fun _ => SW κ Sa g ++ (RC ra (Sa 0) f9 h9 a9 b9 p9 o9)) 1 6 := by
  refine zH_of (cc := cL_added) (maxL := 4) (rt := some .int) (hh := [(0, 6, 7, 34), (0, 6, 11, 36), (0, 6, 15, 41)]) [(0, .ref (ra)), (1, .int (x)), (2, .int (y))] (by decide +kernel) rfl (Nat.le_of_ble_eq_true rfl) rfl ?_
  intro p e s m args below meth c A C hr9 hk htab hX
  have C : zC p s m args c cL_added 4 wsL_added RL D (zTy κ) A := C
  refine z_aload_n C dL_added_0 0 rfl ?_
  refine z_iload_n C dL_added_1 1 rfl ?_
  refine z_iload_n C dL_added_2 2 rfl ?_
  refine zx_catchV C (aX_ok adK adV) hX (mX5_addWagons_no l D κ adK adV Sa g ra f9 h9 a9 b9 p9 o9 σ M x y hls hr hv hx) gL_added_X5_addWagons rfl rfl rfl hdX5_addWagons ⟨(Nat.le_of_ble_eq_true rfl), (Nat.le_of_ble_eq_true rfl)⟩ 13 rfl rfl [] (fun _ => SW κ Sa g ++ (RC ra (Sa 0) f9 h9 a9 b9 p9 o9)) zp_self (fun _ => zp_self') rfl (Nat.le_of_ble_eq_true rfl) dL_added_3 ⟨(Nat.le_of_ble_eq_true rfl), (Nat.le_of_ble_eq_true rfl)⟩ [] ⟨0, 6, 7, 34⟩ [⟨0, 6, 11, 36⟩, ⟨0, 6, 15, 41⟩] htab (fun z hz => absurd hz List.not_mem_nil) (by decide) (by decide) (name := eIB) (show Cond.classLink RL 34 eIB ∈ wsL_added from by decide +kernel) (hX.2.2.1 (eIB, eIB) (by simp [nCs])) (fun u q hu => ?_)
  refine z_astore_n C [(3, .ref (q)), (0, .ref (ra)), (1, .int (x)), (2, .int (y))] dL_added_7 (by decide) rfl ?_
  refine z_bipush (v := (-5)) C dL_added_8 (by decide) ?_
  exact zh_iret C hr9 hk u rfl hu (List.Perm.of_eq rfl) dL_added_10 (Nat.le_of_ble_eq_true rfl) (Nat.le_of_ble_eq_true rfl)
set_option maxRecDepth 100000 in
set_option maxHeartbeats 4000000 in
theorem mL_added_lim (l : Launch) (D : va_G) (κ : Nat → ClassId) (adK adV : Nat → Nat) (Sa : Nat → Nat) (g : Nat → Nat → Nat) (ra f9 h9 a9 b9 p9 o9 : Nat) (σ : Nat → Nat) (M : Nat) (b n : Nat) (hls : l.stackTraces = false) (hr : Rep g σ) (hv : Inv M σ) (hb : b < σ 2) (h1n : 1 ≤ n) (h2n : n ≤ 11) (hl : 12 < σ (65 + 5 * b + 0) + n) : zH (aX adK adV) l yL_added wsL_added { frames := 7, cells := 1, slots := 6, locals := 125 } D (zTy κ) [.ref (ra), .int (nI b), .int (nI n)] (SW κ Sa g ++ (RC ra (Sa 0) f9 h9 a9 b9 p9 o9)) (S := Unit) (fun _ => some (.int (-3))) (fun _ => True) (fun _ => SW κ Sa g ++ (RC ra (Sa 0) f9 h9 a9 b9 p9 o9)) 1 6 := by
  refine zH_of (cc := cL_added) (maxL := 4) (rt := some .int) (hh := [(0, 6, 7, 34), (0, 6, 11, 36), (0, 6, 15, 41)]) [(0, .ref (ra)), (1, .int (nI b)), (2, .int (nI n))] (by decide +kernel) rfl (Nat.le_of_ble_eq_true rfl) rfl ?_
  intro p e s m args below meth c A C hr9 hk htab hX
  have C : zC p s m args c cL_added 4 wsL_added RL D (zTy κ) A := C
  refine z_aload_n C dL_added_0 0 rfl ?_
  refine z_iload_n C dL_added_1 1 rfl ?_
  refine z_iload_n C dL_added_2 2 rfl ?_
  refine zx_catchV C (aX_ok adK adV) hX (mX5_addWagons_lim l D κ adK adV Sa g ra f9 h9 a9 b9 p9 o9 σ M b n hls hr hv hb h1n h2n hl) gL_added_X5_addWagons rfl rfl rfl hdX5_addWagons ⟨(Nat.le_of_ble_eq_true rfl), (Nat.le_of_ble_eq_true rfl)⟩ 13 rfl rfl [] (fun _ => SW κ Sa g ++ (RC ra (Sa 0) f9 h9 a9 b9 p9 o9)) zp_self (fun _ => zp_self') rfl (Nat.le_of_ble_eq_true rfl) dL_added_3 ⟨(Nat.le_of_ble_eq_true rfl), (Nat.le_of_ble_eq_true rfl)⟩ [⟨0, 6, 7, 34⟩, ⟨0, 6, 11, 36⟩] ⟨0, 6, 15, 41⟩ [] htab (fun z hz => by
      simp only [List.mem_cons, List.not_mem_nil, or_false] at hz
      rcases hz with rfl | rfl
      · exact Or.inr ⟨by decide, eIB, by decide +kernel, hX.2.2.2.1 (eIS, eIB) (by simp [nNs])⟩
      · exact Or.inr ⟨by decide, eIA, by decide +kernel, hX.2.2.2.1 (eIS, eIA) (by simp [nNs])⟩) (by decide) (by decide) (name := eIS) (show Cond.classLink RL 41 eIS ∈ wsL_added from by decide +kernel) (hX.2.2.1 (eIS, eIS) (by simp [nCs])) (fun u q hu => ?_)
  refine z_astore_n C [(3, .ref (q)), (0, .ref (ra)), (1, .int (nI b)), (2, .int (nI n))] dL_added_15 (by decide) rfl ?_
  refine z_bipush (v := (-3)) C dL_added_16 (by decide) ?_
  exact zh_iret C hr9 hk u rfl hu (List.Perm.of_eq rfl) dL_added_18 (Nat.le_of_ble_eq_true rfl) (Nat.le_of_ble_eq_true rfl)
set_option maxRecDepth 100000 in
set_option maxHeartbeats 4000000 in
theorem mL_timed_ok (l : Launch) (D : va_G) (κ : Nat → ClassId) (Sa Ha : Nat → Nat) (Hs : Nat → Nat → Nat) (hf : Nat → Option Nat) (ra f9 a9 b9 p9 o9 : Nat) (g : Nat → Nat → Nat) (nx ct : Nat) (gh : Nat → Nat → Nat → Nat) (σ : Nat → Nat) (M : Nat) (b n : Nat) (hr : Rep g σ) (hv : Inv M σ) (hhf : ∀ j, j < 10 → hf j = some (Hs j 0)) (hnx : nx < 10) (hct : ct ≤ 10) (hb : b < σ 2) (h1n : 1 ≤ n) (h2n : n ≤ 5) (adK adV : Nat → Nat) : zH (aX adK adV) l yL_timed wsL_timed { frames := 4, cells := 0, slots := 0, locals := 93 } D (zTy κ) [.ref ra, .int (nI b), .int (nI n)] (kW κ Sa Ha Hs hf ra f9 a9 b9 p9 o9 g nx ct gh) (S := (Nat → Nat → Nat) × (Nat → Nat → Nat)) (fun _ => some (.int (nI (σ (65 + 5 * b + 1))))) (fun u => Rep u.1 σ ∧ Rep u.2 (upN σ (65 + 5 * b + 1) n)) (fun u => kW κ Sa Ha Hs hf ra f9 a9 b9 p9 o9 u.2 (fwN nx) (mnN ct) (upS gh nx u.1)) 0 0 := by
  refine zH_of (cc := cL_timed) (maxL := 4) (rt := some .int) (hh := [(0, 6, 7, 34), (0, 6, 11, 36)]) [(0, .ref (ra)), (1, .int (nI b)), (2, .int (nI n))] (by decide +kernel) rfl (Nat.le_of_ble_eq_true rfl) rfl ?_
  intro p e s m args below meth c A C hr9 hk htab hX
  have C : zC p s m args c cL_timed 4 wsL_timed RL D (zTy κ) A := C
  refine z_aload_n C dL_timed_0 0 rfl ?_
  refine z_iload_n C dL_timed_1 1 rfl ?_
  refine z_iload_n C dL_timed_2 2 rfl ?_
  refine z_callV C (mX5_setTopSpeed_ok l D κ Sa Ha Hs hf ra f9 a9 b9 p9 o9 g nx ct gh σ M b n hr hv hhf hnx hct hb h1n h2n) gL_timed_X5_setTopSpeed rfl rfl rfl hdX5_setTopSpeed ⟨(Nat.le_of_ble_eq_true rfl), (Nat.le_of_ble_eq_true rfl)⟩ 13 rfl rfl [] (fun u => kW κ Sa Ha Hs hf ra f9 a9 b9 p9 o9 u.2 (fwN nx) (mnN ct) (upS gh nx u.1)) zp_self (fun _ => zp_self') rfl (Nat.le_of_ble_eq_true rfl) dL_timed_3 ⟨(Nat.le_of_ble_eq_true rfl), (Nat.le_of_ble_eq_true rfl)⟩ (fun u hu => ?_)
  exact zh_iret C hr9 hk u rfl hu (List.Perm.of_eq rfl) dL_timed_6 (Nat.le_of_ble_eq_true rfl) (Nat.le_of_ble_eq_true rfl)
theorem hdL_timed : yL_timed.cls ≠ "java/lang/invoke/MethodHandle" ∧ yL_timed.cls ≠ "java/lang/invoke/VarHandle" ∧ (parseMethodDescriptor yL_timed.desc).map (fun d => d.parameters.length) = some 3 := by decide +kernel
set_option maxRecDepth 100000 in
set_option maxHeartbeats 4000000 in
theorem mL_timed_no (l : Launch) (D : va_G) (κ : Nat → ClassId) (adK adV : Nat → Nat) (Sa : Nat → Nat) (g : Nat → Nat → Nat) (ra f9 h9 a9 b9 p9 o9 : Nat) (σ : Nat → Nat) (M : Nat) (x y : Int32) (hls : l.stackTraces = false) (hr : Rep g σ) (hv : Inv M σ) (hx : isB (σ 2) x = false) : zH (aX adK adV) l yL_timed wsL_timed { frames := 8, cells := 1, slots := 6, locals := 126 } D (zTy κ) [.ref (ra), .int (x), .int (y)] (SW κ Sa g ++ (RC ra (Sa 0) f9 h9 a9 b9 p9 o9)) (S := Unit) (fun _ => some (.int (-5))) (fun _ => True) (fun _ => SW κ Sa g ++ (RC ra (Sa 0) f9 h9 a9 b9 p9 o9)) 1 6 := by
  refine zH_of (cc := cL_timed) (maxL := 4) (rt := some .int) (hh := [(0, 6, 7, 34), (0, 6, 11, 36)]) [(0, .ref (ra)), (1, .int (x)), (2, .int (y))] (by decide +kernel) rfl (Nat.le_of_ble_eq_true rfl) rfl ?_
  intro p e s m args below meth c A C hr9 hk htab hX
  have C : zC p s m args c cL_timed 4 wsL_timed RL D (zTy κ) A := C
  refine z_aload_n C dL_timed_0 0 rfl ?_
  refine z_iload_n C dL_timed_1 1 rfl ?_
  refine z_iload_n C dL_timed_2 2 rfl ?_
  refine zx_catchV C (aX_ok adK adV) hX (mX5_setTopSpeed_no l D κ adK adV Sa g ra f9 h9 a9 b9 p9 o9 σ M x y hls hr hv hx) gL_timed_X5_setTopSpeed rfl rfl rfl hdX5_setTopSpeed ⟨(Nat.le_of_ble_eq_true rfl), (Nat.le_of_ble_eq_true rfl)⟩ 13 rfl rfl [] (fun _ => SW κ Sa g ++ (RC ra (Sa 0) f9 h9 a9 b9 p9 o9)) zp_self (fun _ => zp_self') rfl (Nat.le_of_ble_eq_true rfl) dL_timed_3 ⟨(Nat.le_of_ble_eq_true rfl), (Nat.le_of_ble_eq_true rfl)⟩ [] ⟨0, 6, 7, 34⟩ [⟨0, 6, 11, 36⟩] htab (fun z hz => absurd hz List.not_mem_nil) (by decide) (by decide) (name := eIB) (show Cond.classLink RL 34 eIB ∈ wsL_timed from by decide +kernel) (hX.2.2.1 (eIB, eIB) (by simp [nCs])) (fun u q hu => ?_)
  refine z_astore_n C [(3, .ref (q)), (0, .ref (ra)), (1, .int (x)), (2, .int (y))] dL_timed_7 (by decide) rfl ?_
  refine z_bipush (v := (-5)) C dL_timed_8 (by decide) ?_
  exact zh_iret C hr9 hk u rfl hu (List.Perm.of_eq rfl) dL_timed_10 (Nat.le_of_ble_eq_true rfl) (Nat.le_of_ble_eq_true rfl)
end LH
