section LH
/-- the law's long row of one -/
abbrev OUTW (κ : Nat → ClassId) (oa : Nat) (fo : Nat → Int64) : va_W := [(oa, .inl (κ 4, 1, .inr (.inl fo)))]
theorem updL_0 {f : Nat → Int64} {v : Int64} : vp_updL f 0 v 0 = v := if_pos rfl
/-- a contract of a method with handlers -/
def zH (X : Ctx) (l : Launch) (y : MethodName) (wsw : List Cond) (rm : Room) (D : va_G) (tys : List (ClassId × FieldType)) (av : List Value) (ws : va_W) {S : Type} (ret : S → Option Value) (post : S → Prop) (w1 : S → va_W) (mc ms : Nat) : Prop :=
  ∀ sz : Nat, vx_Met l y wsw rm (zPrc X D tys av ws sz) (zPo D tys ret post w1 (va_A ws sz)) (fun _ _ _ => False) mc ms (va_A ws sz)
section LHR
variable {p : Program} {l : Launch} {e : Env} {R : Room} {s : State} {m : MethodId} {args : Array Value} {below : List Frame} {meth : Method} {c : Code} {cc : ByteArray} {nL : Nat} {Ts : List Cond} {own : String} {D : va_G} {tys : List (ClassId × FieldType)} {A : Nat → Prop} {cells slots : Nat} {Q : State → Prop} {ws : va_W} {lv : List (Nat × Value)} {pc : Nat} {st : List Value} {X : Ctx}
theorem zH_of {y : MethodName} {wsw wsw' : List Cond} {rm : Room} {av : List Value} {S : Type} {ret : S → Option Value} {post : S → Prop} {w1 : S → va_W} {mc ms maxL : Nat} {rt : Option FieldType} {hh : List (Nat × Nat × Nat × Nat)} (lv0 : List (Nat × Value)) (hpn : plainName y.cls = true) (hw : wsw = .codeWith y cc maxL rt hh :: wsw') (hlen : (lg_sl av).length ≤ maxL) (hlv : lv_args 0 av = lv0)
    (body : ∀ (p : Program) (e : Env) (s : State) (m : MethodId) (args : Array Value) (below : List Frame) (meth : Method) (c : Code) (A : Nat → Prop), zC p s m args c cc maxL wsw y.cls D tys A → meth.sig.returnType = rt → meth.locks = false → c.exceptionTable.toList = tableOf hh → X A s s.heap → zW p l e rm s m args below meth c maxL D A 0 0 (vx_MQ below (zPo D tys ret post w1 A) (fun _ _ _ => False) args s mc ms A) ws lv0 0 []) : zH X l y wsw rm D tys av ws ret post w1 mc ms := by
  subst hlv
  intro sz
  refine vx_ofWH (cc := cc) (maxL := maxL) (ret := rt) hpn hw ?_
  intro p e s m args below meth c s₁ B hml hv
  have htab := vx_table B (atoms_spec (ws := wsw) B.pre _ (by rw [hw]; exact List.mem_cons_self))
  obtain ⟨rfl, hsz, hP, hK, hD0, hX⟩ := hv
  subst hsz
  have hD := hD0.self (sz := s.heap.size)
  have hl := lv_entry av (n := maxL) hlen
  rw [lg_entry_eq]
  exact body p e s m _ below meth c (va_A ws s.heap.size) ⟨B.exec, B.bytes, hml, findClass_of_methodNamed B.named, atoms_spec (ws := wsw) B.pre, hK, fun q h => Or.inr h⟩ B.returns B.notSynchronized htab hX s.heap [] _ hP hD va_S.rf hl
theorem zh_iret (C : zC p s m args c cc nL Ts own D tys A) (hr : meth.sig.returnType = some .int) (hk : meth.locks = false) {S : Type} {ret : S → Option Value} {post : S → Prop} {w1 : S → va_W} {XC : String → State → State → Prop} {mc ms : Nat} {v : Int32} (u : S) (hu : ret u = some (.int v)) (hp : post u) (hw : ws.Perm (w1 u)) (hdg : decode cc pc = .ok (.ireturn, 1)) (hc : cells ≤ mc) (hs : slots ≤ ms) : zW p l e R s m args below meth c nL D A cells slots (vx_MQ below (zPo D tys ret post w1 A) XC args s mc ms A) ws lv pc [.int v] := fun H locs ls hP hD hS hl =>
  vx_ret (z_iret C hr hk u hu hp hw hdg hc hs H locs ls hP hD hS hl)
theorem z_lconst (C : zC p s m args c cc nL Ts own D tys A) {n : Fin 2} {v : Int64} (hdg : decode cc pc = .ok (.lconst n, 1)) (hv : Int64.ofNat (n : Nat) = v) (k : zW p l e R s m args below meth c nL D A cells slots Q ws lv (pc + 1) (.long v :: st)) : zW p l e R s m args below meth c nL D A cells slots Q ws lv pc st := fun H locs ls hP hD hS hl => lv_lconst C.1 C.2.1 hdg hv (k H locs ls hP hD hS hl)
theorem zh_callS (C : zC p s m args c cc nL Ts own D tys A) {y : MethodName} {wsy wsy' : List Cond} {rmy : Room} {wc : va_W} {As : List Value} {S : Type} {ret : S → Option Value} {post : S → Prop} {w1 : S → va_W} {mc ms idx maxL : Nat} {bytes : ByteArray} {rt : Option FieldType} {hh : List (Nat × Nat × Nat × Nat)} {st0 : List Value}
    (hXo : CtxOk X) (hX : X A s s.heap) (hM : zH X l y wsy rmy D tys As wc ret post w1 mc ms) (hG : GoodIn Ts (va_wsS own idx y wsy)) (hw : wsy = .codeWith y bytes maxL rt hh :: wsy') (hrc : rmy.cells = mc) (hrs : rmy.slots = ms)
    (hd : y.cls ≠ "java/lang/invoke/MethodHandle" ∧ y.cls ≠ "java/lang/invoke/VarHandle" ∧ (parseMethodDescriptor y.desc).map (fun d => d.parameters.length) = some As.length) (hR : rmy.frames + 1 ≤ R.frames ∧ 8 + (maxL + 11) + rmy.locals ≤ R.locals)
    (wr : va_W) (ws2 : S → va_W) (hsp : ws.Perm (wc ++ wr)) (hjn : ∀ u, (w1 u ++ wr).Perm (ws2 u)) (hst : st0 = As.reverse ++ st) (hroom : (st.map fun v => v.category).sum ≤ 8) (hdg : decode cc pc = .ok (.invokestatic idx, 3)) (hf : cells + mc ≤ R.cells ∧ slots + ms ≤ R.slots)
    (k : ∀ u, post u → zW p l e R s m args below meth c nL D A (cells + mc) (slots + ms) Q (ws2 u) lv (pc + 3) ((ret u).toList ++ st)) : zW p l e R s m args below meth c nL D A cells slots Q ws lv pc st0 := by
  subst hst
  intro H locs ls hP hD hS hl
  obtain ⟨hx, hb, hml, hown, hts, hK, hA⟩ := C
  have hP := zp_P hsp hP
  have hD := zp_D hsp hD
  have hFc := z_free hD hS hA
  intro T9 hT9 X9
  rcases vx_runSX (As := As) (rest := st) (g := F0 m pc ls (As.reverse ++ st)) ⟨hx, hb, hml, hown, hts⟩ (hM H.size) (vx_cwSW As.length hts hG hw hrc hrs hd hR) ⟨zPrc_blind hXo _ _ _ _ _, z_prec hXo hX hS hFc (zp_l hP) (zd_l hD) hK⟩ rfl rfl hl.1 rfl (lv_room hroom) hdg hf T9 hT9 X9 with ⟨v, st₀, t, T', L, h0, X', hL, e1, e2, ⟨⟨u, hv, hp, hbP, hbK, hbD⟩, hz, hk⟩, sg⟩ | ⟨q, st₀, t, T', L, E, ce, h0, X', hL, e1, e2, hno, hce, hcv, hcl, sg⟩
  · cases hv
    obtain ⟨k1, k2, k3⟩ := vx_keep h0 e1 hS (fun q _ h => hFc q h) hFc hL ⟨hz, hk⟩
    rw [← e1] at hbP
    obtain ⟨hP1, hD1⟩ := z_join hP hD k2 hFc hbP hbD
    obtain ⟨t2, a1, b1⟩ := k u hp T'.heap (locs ++ L) ls (zp_P (hjn u) hP1) (zp_D (hjn u) hD1) k3 hl T' rfl X'
    exact ⟨t2, sg t2 a1, b1⟩
  · exact hno.elim
end LHR
theorem tn_1 : ∀ q ∈ [(eIB, eIS), (eIB, eIA), (eIS, eIB), (eIS, eIA), (eIA, eIB), (eIA, eIS)], q ∈ nNs := fun _ h => h
set_option maxRecDepth 100000 in
set_option maxHeartbeats 4000000 in
theorem mL_append_ok (l : Launch) (D : va_G) (κ : Nat → ClassId) (Pa Pr : Nat → Nat) (ra c9 f9 h9 a9 b9 o9 : Nat) (eo : Int32) (v : Nat → Nat) (tx : Nat → Int32) (x1 x2 x3 x4 x5 : Int32) (h1 : v 1 ≤ 580) (adK adV : Nat → Nat) (oa : Nat) (fo : Nat → Int64) : zH (aX adK adV) l yL_append wsL_append { frames := 3, cells := 0, slots := 0, locals := 67 } D (zTy κ) [.ref ra, .int (x1), .int (x2), .int (x3), .int (x4), .int (x5), .ref oa] (OUTW κ oa fo ++ (RC ra c9 f9 h9 a9 b9 (Pa 0) o9 ++ (PW κ Pa Pr eo v tx))) (S := Unit) (fun _ => some (.int (nI 0))) (fun _ => True) (fun _ => OUTW κ oa (vp_updL fo 0 (((nI (v 1 + 4 + 4 + 4 + 4 + 4))).toInt64)) ++ (RC ra c9 f9 h9 a9 b9 (Pa 0) o9 ++ (PW κ Pa Pr eo (upN v 1 (v 1 + 4 + 4 + 4 + 4 + 4)) (fdF (fdF (fdF (fdF (fdF tx (v 1) x1) (v 1 + 4) x2) (v 1 + 4 + 4) x3) (v 1 + 4 + 4 + 4) x4) (v 1 + 4 + 4 + 4 + 4) x5)))) 0 0 := by
  refine zH_of (cc := cL_append) (maxL := 8) (rt := some .int) (hh := [(0, 16, 19, 13)]) [(0, .ref (ra)), (1, .int (x1)), (2, .int (x2)), (3, .int (x3)), (4, .int (x4)), (5, .int (x5)), (6, .ref (oa))] (by decide +kernel) rfl (Nat.le_of_ble_eq_true rfl) rfl ?_
  intro p e s m args below meth c A C hr9 hk htab hX
  have C : zC p s m args c cL_append 8 wsL_append RL D (zTy κ) A := C
  refine z_aload C dL_append_0 6 rfl ?_
  refine z_iconst (v := nI 0) C dL_append_2 (by decide) ?_
  refine z_aload_n C dL_append_3 0 rfl ?_
  refine z_iload_n C dL_append_4 1 rfl ?_
  refine z_iload_n C dL_append_5 2 rfl ?_
  refine z_iload_n C dL_append_6 3 rfl ?_
  refine z_iload C dL_append_7 4 rfl ?_
  refine z_iload C dL_append_9 5 rfl ?_
  refine z_callV C (mX5_append_ok l D κ Pa Pr ra c9 f9 h9 a9 b9 o9 eo v tx x1 x2 x3 x4 x5 h1) gL_append_X5_append rfl rfl rfl hdX5_append ⟨(Nat.le_of_ble_eq_true rfl), (Nat.le_of_ble_eq_true rfl)⟩ 0 rfl rfl (OUTW κ oa fo) (fun _ => OUTW κ oa fo ++ (RC ra c9 f9 h9 a9 b9 (Pa 0) o9 ++ (PW κ Pa Pr eo (upN v 1 (v 1 + 4 + 4 + 4 + 4 + 4)) (fdF (fdF (fdF (fdF (fdF tx (v 1) x1) (v 1 + 4) x2) (v 1 + 4 + 4) x3) (v 1 + 4 + 4 + 4) x4) (v 1 + 4 + 4 + 4 + 4) x5)))) List.perm_append_comm (fun _ => List.perm_append_comm) rfl (Nat.le_of_ble_eq_true rfl) dL_append_11 ⟨(Nat.le_of_ble_eq_true rfl), (Nat.le_of_ble_eq_true rfl)⟩ (fun u hu => ?_)
  refine z_i2l C dL_append_14 rfl ?_
  refine z_last C 0 4 rfl rfl (i := 0) (by decide) (by decide) dL_append_15 (OUTW κ oa (vp_updL fo 0 (((nI (v 1 + 4 + 4 + 4 + 4 + 4))).toInt64)) ++ (RC ra c9 f9 h9 a9 b9 (Pa 0) o9 ++ (PW κ Pa Pr eo (upN v 1 (v 1 + 4 + 4 + 4 + 4 + 4)) (fdF (fdF (fdF (fdF (fdF tx (v 1) x1) (v 1 + 4) x2) (v 1 + 4 + 4) x3) (v 1 + 4 + 4 + 4) x4) (v 1 + 4 + 4 + 4 + 4) x5)))) rfl ?_
  refine z_goto (tgt := 23) C dL_append_16 (by decide) ?_
  refine z_iconst (v := nI 0) C dL_append_23 (by decide) ?_
  exact zh_iret C hr9 hk u rfl hu (List.Perm.of_eq rfl) dL_append_24 (Nat.le_of_ble_eq_true rfl) (Nat.le_of_ble_eq_true rfl)
theorem hdL_append : yL_append.cls ≠ "java/lang/invoke/MethodHandle" ∧ yL_append.cls ≠ "java/lang/invoke/VarHandle" ∧ (parseMethodDescriptor yL_append.desc).map (fun d => d.parameters.length) = some 7 := by decide +kernel
set_option maxRecDepth 100000 in
set_option maxHeartbeats 4000000 in
theorem mL_append_no (l : Launch) (D : va_G) (κ : Nat → ClassId) (adK adV : Nat → Nat) (Pa Pr : Nat → Nat) (ra c9 f9 h9 a9 b9 o9 : Nat) (eo : Int32) (v : Nat → Nat) (tx : Nat → Int32) (x1 x2 x3 x4 x5 : Int32) (hls : l.stackTraces = false) (h1 : v 1 ≤ 600) (h2 : 580 < v 1) (oa : Nat) (fo : Nat → Int64) : zH (aX adK adV) l yL_append wsL_append { frames := 7, cells := 1, slots := 6, locals := 128 } D (zTy κ) [.ref (ra), .int (x1), .int (x2), .int (x3), .int (x4), .int (x5), .ref oa] (OUTW κ oa fo ++ (RC ra c9 f9 h9 a9 b9 (Pa 0) o9 ++ (PW κ Pa Pr eo v tx))) (S := Unit) (fun _ => some (.int (nI 1))) (fun _ => True) (fun _ => OUTW κ oa fo ++ (RC ra c9 f9 h9 a9 b9 (Pa 0) o9 ++ (PW κ Pa Pr eo v tx))) 1 6 := by
  refine zH_of (cc := cL_append) (maxL := 8) (rt := some .int) (hh := [(0, 16, 19, 13)]) [(0, .ref (ra)), (1, .int (x1)), (2, .int (x2)), (3, .int (x3)), (4, .int (x4)), (5, .int (x5)), (6, .ref (oa))] (by decide +kernel) rfl (Nat.le_of_ble_eq_true rfl) rfl ?_
  intro p e s m args below meth c A C hr9 hk htab hX
  have C : zC p s m args c cL_append 8 wsL_append RL D (zTy κ) A := C
  refine z_aload C dL_append_0 6 rfl ?_
  refine z_iconst (v := nI 0) C dL_append_2 (by decide) ?_
  refine z_aload_n C dL_append_3 0 rfl ?_
  refine z_iload_n C dL_append_4 1 rfl ?_
  refine z_iload_n C dL_append_5 2 rfl ?_
  refine z_iload_n C dL_append_6 3 rfl ?_
  refine z_iload C dL_append_7 4 rfl ?_
  refine z_iload C dL_append_9 5 rfl ?_
  refine zx_catchV C (aX_ok adK adV) hX (mX5_append_no l D κ adK adV Pa Pr ra c9 f9 h9 a9 b9 o9 eo v tx x1 x2 x3 x4 x5 hls h1 h2) gL_append_X5_append rfl rfl rfl hdX5_append ⟨(Nat.le_of_ble_eq_true rfl), (Nat.le_of_ble_eq_true rfl)⟩ 0 rfl rfl (OUTW κ oa fo) (fun _ => OUTW κ oa fo ++ (RC ra c9 f9 h9 a9 b9 (Pa 0) o9 ++ (PW κ Pa Pr eo v tx))) List.perm_append_comm (fun _ => List.perm_append_comm) rfl (Nat.le_of_ble_eq_true rfl) dL_append_11 ⟨(Nat.le_of_ble_eq_true rfl), (Nat.le_of_ble_eq_true rfl)⟩ [] ⟨0, 16, 19, 13⟩ [] htab (fun z hz => absurd hz List.not_mem_nil) (by decide) (by decide) (name := eIS) (show Cond.classLink RL 13 eIS ∈ wsL_append from by decide +kernel) (hX.2.2.1 _ (by simp [nCs])) (fun u q hu => ?_)
  refine z_astore C [(7, .ref (q)), (0, .ref (ra)), (1, .int (x1)), (2, .int (x2)), (3, .int (x3)), (4, .int (x4)), (5, .int (x5)), (6, .ref (oa))] dL_append_19 (by decide) rfl ?_
  refine z_iconst (v := nI 1) C dL_append_21 (by decide) ?_
  exact zh_iret C hr9 hk u rfl hu (List.Perm.of_eq rfl) dL_append_22 (Nat.le_of_ble_eq_true rfl) (Nat.le_of_ble_eq_true rfl)
set_option maxRecDepth 100000 in
set_option maxHeartbeats 4000000 in
theorem mL_load_ok (l : Launch) (D : va_G) (κ : Nat → ClassId) (adK adV : Nat → Nat) (Sa Ha Pa Pr : Nat → Nat) (hf : Nat → Option Nat) (ra f9 la lb o9 s1 s2 nx ct fa fb : Nat) (g gp : Nat → Nat → Nat) (eo : Int32) (v : Nat → Nat) (tx : Nat → Int32) (n : Nat) (τ : Nat → Nat) (hn : n ≤ v 1) (h600 : v 1 ≤ 600) (hpt : pText tx n = .inr τ) (oa : Nat) (fo : Nat → Int64) : zH (aX adK adV) l yL_load wsL_load { frames := 9, cells := 0, slots := 0, locals := 194 } D (zTy κ) [.ref ra, .int (nI n), .ref oa] (OUTW κ oa fo ++ (SW κ Sa g ++ (RC ra (Sa 0) f9 (Ha 0) la lb (Pa 0) o9 ++ (HO κ Ha hf nx ct ++ (SO la s1 fa ++ (SO lb s2 fb ++ (SW κ Pr gp ++ PW κ Pa Pr eo v tx))))))) (S := (Nat → Nat → Nat) × (Nat → Nat → Nat) × Int32 × (Nat → Nat)) (fun _ => some (.int (nI 0))) (fun u => Rep u.1 τ ∧ Inv (20 + 1100 * n) τ ∧ τ 0 ≤ 9999 ∧ u.2.2.1 = -1 ∧ u.2.2.2 1 = 0 ∧ u.2.2.2 2 = 0) (fun u => OUTW κ oa (vp_updL fo 0 (((nI (τ 1))).toInt64)) ++ (SW κ Sa u.1 ++ (RC ra (Sa 0) f9 (Ha 0) la lb (Pa 0) o9 ++ (HO κ Ha hf nx 0 ++ (SO la s1 0 ++ (SO lb s2 0 ++ (SW κ Pr u.2.1 ++ PW κ Pa Pr u.2.2.1 u.2.2.2 tx))))))) 0 0 := by
  refine zH_of (cc := cL_load) (maxL := 4) (rt := some .int) (hh := [(0, 9, 12, 19), (0, 9, 15, 21)]) [(0, .ref (ra)), (1, .int (nI n)), (2, .ref (oa))] (by decide +kernel) rfl (Nat.le_of_ble_eq_true rfl) rfl ?_
  intro p e s m args below meth c A C hr9 hk htab hX
  have C : zC p s m args c cL_load 4 wsL_load RL D (zTy κ) A := C
  refine z_aload_n C dL_load_0 2 rfl ?_
  refine z_iconst (v := nI 0) C dL_load_1 (by decide) ?_
  refine z_aload_n C dL_load_2 0 rfl ?_
  refine z_iload_n C dL_load_3 1 rfl ?_
  refine z_callVc C (cX_ok adK adV) hX.1 (mX5_load_ok l D κ adK adV Sa Ha Pa Pr hf ra f9 la lb o9 s1 s2 nx ct fa fb g gp eo v tx n τ hn h600 hpt) gL_load_X5_load rfl rfl rfl hdX5_load ⟨(Nat.le_of_ble_eq_true rfl), (Nat.le_of_ble_eq_true rfl)⟩ 13 rfl rfl (OUTW κ oa fo) (fun u => OUTW κ oa fo ++ (SW κ Sa u.1 ++ (RC ra (Sa 0) f9 (Ha 0) la lb (Pa 0) o9 ++ (HO κ Ha hf nx 0 ++ (SO la s1 0 ++ (SO lb s2 0 ++ (SW κ Pr u.2.1 ++ PW κ Pa Pr u.2.2.1 u.2.2.2 tx))))))) List.perm_append_comm (fun _ => List.perm_append_comm) rfl (Nat.le_of_ble_eq_true rfl) dL_load_4 ⟨(Nat.le_of_ble_eq_true rfl), (Nat.le_of_ble_eq_true rfl)⟩ (fun u hu => ?_)
  refine z_i2l C dL_load_7 rfl ?_
  refine z_last C 0 4 rfl rfl (i := 0) (by decide) (by decide) dL_load_8 (OUTW κ oa (vp_updL fo 0 (((nI (τ 1))).toInt64)) ++ (SW κ Sa u.1 ++ (RC ra (Sa 0) f9 (Ha 0) la lb (Pa 0) o9 ++ (HO κ Ha hf nx 0 ++ (SO la s1 0 ++ (SO lb s2 0 ++ (SW κ Pr u.2.1 ++ PW κ Pa Pr u.2.2.1 u.2.2.2 tx))))))) rfl ?_
  refine z_goto (tgt := 18) C dL_load_9 (by decide) ?_
  refine z_iconst (v := nI 0) C dL_load_18 (by decide) ?_
  exact zh_iret C hr9 hk u rfl hu (List.Perm.of_eq rfl) dL_load_19 (Nat.le_of_ble_eq_true rfl) (Nat.le_of_ble_eq_true rfl)
theorem hdL_load : yL_load.cls ≠ "java/lang/invoke/MethodHandle" ∧ yL_load.cls ≠ "java/lang/invoke/VarHandle" ∧ (parseMethodDescriptor yL_load.desc).map (fun d => d.parameters.length) = some 3 := by decide +kernel
set_option maxRecDepth 100000 in
set_option maxHeartbeats 4000000 in
theorem mL_load_err (l : Launch) (D : va_G) (κ : Nat → ClassId) (adK adV : Nat → Nat) (Sa Ha Pa Pr : Nat → Nat) (hf : Nat → Option Nat) (ra f9 la lb o9 s1 s2 nx ct fa fb : Nat) (g gp : Nat → Nat → Nat) (eo : Int32) (v : Nat → Nat) (tx : Nat → Int32) (n : Nat) (c0 e0 : Nat) (hls : l.stackTraces = false) (hn : n ≤ v 1) (h600 : v 1 ≤ 600) (hpt : pText tx n = .inl (c0, e0)) (oa : Nat) (fo : Nat → Int64) : zH (aX adK adV) l yL_load wsL_load { frames := 9, cells := 1, slots := 6, locals := 204 } D (zTy κ) [.ref (ra), .int (nI n), .ref oa] (OUTW κ oa fo ++ (SW κ Sa g ++ (RC ra (Sa 0) f9 (Ha 0) la lb (Pa 0) o9 ++ (HO κ Ha hf nx ct ++ (SO la s1 fa ++ (SO lb s2 fb ++ (SW κ Pr gp ++ PW κ Pa Pr eo v tx))))))) (S := (Nat → Nat → Nat) × Int32 × (Nat → Nat)) (fun _ => some (.int (nI 2))) (fun u => u.2.1 = nI e0 ∧ u.2.2 1 = 0 ∧ u.2.2 2 = c0) (fun u => OUTW κ oa fo ++ (SW κ Sa g ++ (RC ra (Sa 0) f9 (Ha 0) la lb (Pa 0) o9 ++ (HO κ Ha hf nx ct ++ (SO la s1 fa ++ (SO lb s2 fb ++ (SW κ Pr u.1 ++ PW κ Pa Pr u.2.1 u.2.2 tx))))))) 1 6 := by
  refine zH_of (cc := cL_load) (maxL := 4) (rt := some .int) (hh := [(0, 9, 12, 19), (0, 9, 15, 21)]) [(0, .ref (ra)), (1, .int (nI n)), (2, .ref (oa))] (by decide +kernel) rfl (Nat.le_of_ble_eq_true rfl) rfl ?_
  intro p e s m args below meth c A C hr9 hk htab hX
  have C : zC p s m args c cL_load 4 wsL_load RL D (zTy κ) A := C
  refine z_aload_n C dL_load_0 2 rfl ?_
  refine z_iconst (v := nI 0) C dL_load_1 (by decide) ?_
  refine z_aload_n C dL_load_2 0 rfl ?_
  refine z_iload_n C dL_load_3 1 rfl ?_
  refine zx_catchV C (aX_ok adK adV) hX (mX5_load_err l D κ adK adV Sa Ha Pa Pr hf ra f9 la lb o9 s1 s2 nx ct fa fb g gp eo v tx n c0 e0 hls hn h600 hpt) gL_load_X5_load rfl rfl rfl hdX5_load ⟨(Nat.le_of_ble_eq_true rfl), (Nat.le_of_ble_eq_true rfl)⟩ 13 rfl rfl (OUTW κ oa fo) (fun u => OUTW κ oa fo ++ (SW κ Sa g ++ (RC ra (Sa 0) f9 (Ha 0) la lb (Pa 0) o9 ++ (HO κ Ha hf nx ct ++ (SO la s1 fa ++ (SO lb s2 fb ++ (SW κ Pr u.1 ++ PW κ Pa Pr u.2.1 u.2.2 tx))))))) List.perm_append_comm (fun _ => List.perm_append_comm) rfl (Nat.le_of_ble_eq_true rfl) dL_load_4 ⟨(Nat.le_of_ble_eq_true rfl), (Nat.le_of_ble_eq_true rfl)⟩ [⟨0, 9, 12, 19⟩] ⟨0, 9, 15, 21⟩ [] htab (fun z hz => by
      simp only [List.mem_cons, List.not_mem_nil, or_false] at hz
      rcases hz with rfl
      · exact Or.inr ⟨by decide, eIB, by decide +kernel, hX.2.2.2.1 (eIA, eIB) (by simp [nNs])⟩) (by decide) (by decide) (name := eIA) (show Cond.classLink RL 21 eIA ∈ wsL_load from by decide +kernel) (hX.2.2.1 _ (by simp [nCs])) (fun u q hu => ?_)
  refine z_astore_n C [(3, .ref (q)), (0, .ref (ra)), (1, .int (nI n)), (2, .ref (oa))] dL_load_15 (by decide) rfl ?_
  refine z_iconst (v := nI 2) C dL_load_16 (by decide) ?_
  exact zh_iret C hr9 hk u rfl hu (List.Perm.of_eq rfl) dL_load_17 (Nat.le_of_ble_eq_true rfl) (Nat.le_of_ble_eq_true rfl)
set_option maxRecDepth 100000 in
set_option maxHeartbeats 4000000 in
theorem mL_load_no (l : Launch) (D : va_G) (κ : Nat → ClassId) (adK adV : Nat → Nat) (Pa Pr : Nat → Nat) (ra c9 f9 h9 a9 b9 o9 : Nat) (eo : Int32) (v : Nat → Nat) (tx : Nat → Int32) (x : Int32) (hls : l.stackTraces = false) (h600 : v 1 ≤ 600) (hx : isB (v 1 + 1) x = false) (oa : Nat) (fo : Nat → Int64) : zH (aX adK adV) l yL_load wsL_load { frames := 7, cells := 1, slots := 6, locals := 103 } D (zTy κ) [.ref (ra), .int (x), .ref oa] (OUTW κ oa fo ++ (RC ra c9 f9 h9 a9 b9 (Pa 0) o9 ++ (PW κ Pa Pr eo v tx))) (S := Unit) (fun _ => some (.int (nI 1))) (fun _ => True) (fun _ => OUTW κ oa fo ++ (RC ra c9 f9 h9 a9 b9 (Pa 0) o9 ++ (PW κ Pa Pr eo v tx))) 1 6 := by
  refine zH_of (cc := cL_load) (maxL := 4) (rt := some .int) (hh := [(0, 9, 12, 19), (0, 9, 15, 21)]) [(0, .ref (ra)), (1, .int (x)), (2, .ref (oa))] (by decide +kernel) rfl (Nat.le_of_ble_eq_true rfl) rfl ?_
  intro p e s m args below meth c A C hr9 hk htab hX
  have C : zC p s m args c cL_load 4 wsL_load RL D (zTy κ) A := C
  refine z_aload_n C dL_load_0 2 rfl ?_
  refine z_iconst (v := nI 0) C dL_load_1 (by decide) ?_
  refine z_aload_n C dL_load_2 0 rfl ?_
  refine z_iload_n C dL_load_3 1 rfl ?_
  refine zx_catchV C (aX_ok adK adV) hX (mX5_load_no l D κ adK adV Pa Pr ra c9 f9 h9 a9 b9 o9 eo v tx x hls h600 hx) gL_load_X5_load rfl rfl rfl hdX5_load ⟨(Nat.le_of_ble_eq_true rfl), (Nat.le_of_ble_eq_true rfl)⟩ 0 rfl rfl (OUTW κ oa fo) (fun _ => OUTW κ oa fo ++ (RC ra c9 f9 h9 a9 b9 (Pa 0) o9 ++ (PW κ Pa Pr eo v tx))) List.perm_append_comm (fun _ => List.perm_append_comm) rfl (Nat.le_of_ble_eq_true rfl) dL_load_4 ⟨(Nat.le_of_ble_eq_true rfl), (Nat.le_of_ble_eq_true rfl)⟩ [] ⟨0, 9, 12, 19⟩ [⟨0, 9, 15, 21⟩] htab (fun z hz => absurd hz List.not_mem_nil) (by decide) (by decide) (name := eIB) (show Cond.classLink RL 19 eIB ∈ wsL_load from by decide +kernel) (hX.2.2.1 _ (by simp [nCs])) (fun u q hu => ?_)
  refine z_astore_n C [(3, .ref (q)), (0, .ref (ra)), (1, .int (x)), (2, .ref (oa))] dL_load_12 (by decide) rfl ?_
  refine z_iconst (v := nI 1) C dL_load_13 (by decide) ?_
  exact zh_iret C hr9 hk u rfl hu (List.Perm.of_eq rfl) dL_load_14 (Nat.le_of_ble_eq_true rfl) (Nat.le_of_ble_eq_true rfl)
set_option maxRecDepth 100000 in
set_option maxHeartbeats 4000000 in
theorem mL_lengthOf_ok (l : Launch) (D : va_G) (κ : Nat → ClassId) (Sa : Nat → Nat) (g : Nat → Nat → Nat) (ra f9 h9 a9 b9 p9 o9 : Nat) (σ : Nat → Nat) (M : Nat) (b : Nat) (hr : Rep g σ) (hv : Inv M σ) (hb : b < σ 1) (adK adV : Nat → Nat) (oa : Nat) (fo : Nat → Int64) : zH (aX adK adV) l yL_lengthOf wsL_lengthOf { frames := 2, cells := 0, slots := 0, locals := 42 } D (zTy κ) [.ref ra, .int (nI b), .ref oa] (OUTW κ oa fo ++ (SW κ Sa g ++ (RC ra (Sa 0) f9 h9 a9 b9 p9 o9))) (S := Unit) (fun _ => some (.int (nI 0))) (fun _ => True) (fun _ => OUTW κ oa (vp_updL fo 0 (((nI (σ (5 + 6 * b + 0)))).toInt64)) ++ (SW κ Sa g ++ (RC ra (Sa 0) f9 h9 a9 b9 p9 o9))) 0 0 := by
  refine zH_of (cc := cL_lengthOf) (maxL := 4) (rt := some .int) (hh := [(0, 9, 12, 19)]) [(0, .ref (ra)), (1, .int (nI b)), (2, .ref (oa))] (by decide +kernel) rfl (Nat.le_of_ble_eq_true rfl) rfl ?_
  intro p e s m args below meth c A C hr9 hk htab hX
  have C : zC p s m args c cL_lengthOf 4 wsL_lengthOf RL D (zTy κ) A := C
  refine z_aload_n C dL_lengthOf_0 2 rfl ?_
  refine z_iconst (v := nI 0) C dL_lengthOf_1 (by decide) ?_
  refine z_aload_n C dL_lengthOf_2 0 rfl ?_
  refine z_iload_n C dL_lengthOf_3 1 rfl ?_
  refine z_callV C (mX5_lengthOf_ok l D κ Sa g ra f9 h9 a9 b9 p9 o9 σ M b hr hv hb) gL_lengthOf_X5_lengthOf rfl rfl rfl hdX5_lengthOf ⟨(Nat.le_of_ble_eq_true rfl), (Nat.le_of_ble_eq_true rfl)⟩ 13 rfl rfl (OUTW κ oa fo) (fun _ => OUTW κ oa fo ++ (SW κ Sa g ++ (RC ra (Sa 0) f9 h9 a9 b9 p9 o9))) List.perm_append_comm (fun _ => List.perm_append_comm) rfl (Nat.le_of_ble_eq_true rfl) dL_lengthOf_4 ⟨(Nat.le_of_ble_eq_true rfl), (Nat.le_of_ble_eq_true rfl)⟩ (fun u hu => ?_)
  refine z_i2l C dL_lengthOf_7 rfl ?_
  refine z_last C 0 4 rfl rfl (i := 0) (by decide) (by decide) dL_lengthOf_8 (OUTW κ oa (vp_updL fo 0 (((nI (σ (5 + 6 * b + 0)))).toInt64)) ++ (SW κ Sa g ++ (RC ra (Sa 0) f9 h9 a9 b9 p9 o9))) rfl ?_
  refine z_goto (tgt := 15) C dL_lengthOf_9 (by decide) ?_
  refine z_iconst (v := nI 0) C dL_lengthOf_15 (by decide) ?_
  exact zh_iret C hr9 hk u rfl hu (List.Perm.of_eq rfl) dL_lengthOf_16 (Nat.le_of_ble_eq_true rfl) (Nat.le_of_ble_eq_true rfl)
theorem hdL_lengthOf : yL_lengthOf.cls ≠ "java/lang/invoke/MethodHandle" ∧ yL_lengthOf.cls ≠ "java/lang/invoke/VarHandle" ∧ (parseMethodDescriptor yL_lengthOf.desc).map (fun d => d.parameters.length) = some 3 := by decide +kernel
set_option maxRecDepth 100000 in
set_option maxHeartbeats 4000000 in
theorem mL_lengthOf_no (l : Launch) (D : va_G) (κ : Nat → ClassId) (adK adV : Nat → Nat) (Sa : Nat → Nat) (g : Nat → Nat → Nat) (ra f9 h9 a9 b9 p9 o9 : Nat) (σ : Nat → Nat) (M : Nat) (x : Int32) (hls : l.stackTraces = false) (hr : Rep g σ) (hv : Inv M σ) (hx : isB (σ 1) x = false) (oa : Nat) (fo : Nat → Int64) : zH (aX adK adV) l yL_lengthOf wsL_lengthOf { frames := 8, cells := 1, slots := 6, locals := 124 } D (zTy κ) [.ref (ra), .int (x), .ref oa] (OUTW κ oa fo ++ (SW κ Sa g ++ (RC ra (Sa 0) f9 h9 a9 b9 p9 o9))) (S := Unit) (fun _ => some (.int (nI 1))) (fun _ => True) (fun _ => OUTW κ oa fo ++ (SW κ Sa g ++ (RC ra (Sa 0) f9 h9 a9 b9 p9 o9))) 1 6 := by
  refine zH_of (cc := cL_lengthOf) (maxL := 4) (rt := some .int) (hh := [(0, 9, 12, 19)]) [(0, .ref (ra)), (1, .int (x)), (2, .ref (oa))] (by decide +kernel) rfl (Nat.le_of_ble_eq_true rfl) rfl ?_
  intro p e s m args below meth c A C hr9 hk htab hX
  have C : zC p s m args c cL_lengthOf 4 wsL_lengthOf RL D (zTy κ) A := C
  refine z_aload_n C dL_lengthOf_0 2 rfl ?_
  refine z_iconst (v := nI 0) C dL_lengthOf_1 (by decide) ?_
  refine z_aload_n C dL_lengthOf_2 0 rfl ?_
  refine z_iload_n C dL_lengthOf_3 1 rfl ?_
  refine zx_catchV C (aX_ok adK adV) hX (mX5_lengthOf_no l D κ adK adV Sa g ra f9 h9 a9 b9 p9 o9 σ M x hls hr hv hx) gL_lengthOf_X5_lengthOf rfl rfl rfl hdX5_lengthOf ⟨(Nat.le_of_ble_eq_true rfl), (Nat.le_of_ble_eq_true rfl)⟩ 13 rfl rfl (OUTW κ oa fo) (fun _ => OUTW κ oa fo ++ (SW κ Sa g ++ (RC ra (Sa 0) f9 h9 a9 b9 p9 o9))) List.perm_append_comm (fun _ => List.perm_append_comm) rfl (Nat.le_of_ble_eq_true rfl) dL_lengthOf_4 ⟨(Nat.le_of_ble_eq_true rfl), (Nat.le_of_ble_eq_true rfl)⟩ [] ⟨0, 9, 12, 19⟩ [] htab (fun z hz => absurd hz List.not_mem_nil) (by decide) (by decide) (name := eIB) (show Cond.classLink RL 19 eIB ∈ wsL_lengthOf from by decide +kernel) (hX.2.2.1 _ (by simp [nCs])) (fun u q hu => ?_)
  refine z_astore_n C [(3, .ref (q)), (0, .ref (ra)), (1, .int (x)), (2, .ref (oa))] dL_lengthOf_12 (by decide) rfl ?_
  refine z_iconst (v := nI 1) C dL_lengthOf_13 (by decide) ?_
  exact zh_iret C hr9 hk u rfl hu (List.Perm.of_eq rfl) dL_lengthOf_14 (Nat.le_of_ble_eq_true rfl) (Nat.le_of_ble_eq_true rfl)
set_option maxRecDepth 100000 in
set_option maxHeartbeats 4000000 in
theorem mL_depthOf_ok (l : Launch) (D : va_G) (κ : Nat → ClassId) (Sa : Nat → Nat) (g : Nat → Nat → Nat) (ra f9 h9 a9 b9 p9 o9 : Nat) (σ : Nat → Nat) (M : Nat) (b : Nat) (hr : Rep g σ) (hv : Inv M σ) (hb : b < σ 1) (adK adV : Nat → Nat) (oa : Nat) (fo : Nat → Int64) : zH (aX adK adV) l yL_depthOf wsL_depthOf { frames := 2, cells := 0, slots := 0, locals := 42 } D (zTy κ) [.ref ra, .int (nI b), .ref oa] (OUTW κ oa fo ++ (SW κ Sa g ++ (RC ra (Sa 0) f9 h9 a9 b9 p9 o9))) (S := Unit) (fun _ => some (.int (nI 0))) (fun _ => True) (fun _ => OUTW κ oa (vp_updL fo 0 (((nI (σ (5 + 6 * b + 1)))).toInt64)) ++ (SW κ Sa g ++ (RC ra (Sa 0) f9 h9 a9 b9 p9 o9))) 0 0 := by
  refine zH_of (cc := cL_depthOf) (maxL := 4) (rt := some .int) (hh := [(0, 9, 12, 19)]) [(0, .ref (ra)), (1, .int (nI b)), (2, .ref (oa))] (by decide +kernel) rfl (Nat.le_of_ble_eq_true rfl) rfl ?_
  intro p e s m args below meth c A C hr9 hk htab hX
  have C : zC p s m args c cL_depthOf 4 wsL_depthOf RL D (zTy κ) A := C
  refine z_aload_n C dL_depthOf_0 2 rfl ?_
  refine z_iconst (v := nI 0) C dL_depthOf_1 (by decide) ?_
  refine z_aload_n C dL_depthOf_2 0 rfl ?_
  refine z_iload_n C dL_depthOf_3 1 rfl ?_
  refine z_callV C (mX5_depthOf_ok l D κ Sa g ra f9 h9 a9 b9 p9 o9 σ M b hr hv hb) gL_depthOf_X5_depthOf rfl rfl rfl hdX5_depthOf ⟨(Nat.le_of_ble_eq_true rfl), (Nat.le_of_ble_eq_true rfl)⟩ 13 rfl rfl (OUTW κ oa fo) (fun _ => OUTW κ oa fo ++ (SW κ Sa g ++ (RC ra (Sa 0) f9 h9 a9 b9 p9 o9))) List.perm_append_comm (fun _ => List.perm_append_comm) rfl (Nat.le_of_ble_eq_true rfl) dL_depthOf_4 ⟨(Nat.le_of_ble_eq_true rfl), (Nat.le_of_ble_eq_true rfl)⟩ (fun u hu => ?_)
  refine z_i2l C dL_depthOf_7 rfl ?_
  refine z_last C 0 4 rfl rfl (i := 0) (by decide) (by decide) dL_depthOf_8 (OUTW κ oa (vp_updL fo 0 (((nI (σ (5 + 6 * b + 1)))).toInt64)) ++ (SW κ Sa g ++ (RC ra (Sa 0) f9 h9 a9 b9 p9 o9))) rfl ?_
  refine z_goto (tgt := 15) C dL_depthOf_9 (by decide) ?_
  refine z_iconst (v := nI 0) C dL_depthOf_15 (by decide) ?_
  exact zh_iret C hr9 hk u rfl hu (List.Perm.of_eq rfl) dL_depthOf_16 (Nat.le_of_ble_eq_true rfl) (Nat.le_of_ble_eq_true rfl)
theorem hdL_depthOf : yL_depthOf.cls ≠ "java/lang/invoke/MethodHandle" ∧ yL_depthOf.cls ≠ "java/lang/invoke/VarHandle" ∧ (parseMethodDescriptor yL_depthOf.desc).map (fun d => d.parameters.length) = some 3 := by decide +kernel
set_option maxRecDepth 100000 in
set_option maxHeartbeats 4000000 in
theorem mL_depthOf_no (l : Launch) (D : va_G) (κ : Nat → ClassId) (adK adV : Nat → Nat) (Sa : Nat → Nat) (g : Nat → Nat → Nat) (ra f9 h9 a9 b9 p9 o9 : Nat) (σ : Nat → Nat) (M : Nat) (x : Int32) (hls : l.stackTraces = false) (hr : Rep g σ) (hv : Inv M σ) (hx : isB (σ 1) x = false) (oa : Nat) (fo : Nat → Int64) : zH (aX adK adV) l yL_depthOf wsL_depthOf { frames := 8, cells := 1, slots := 6, locals := 124 } D (zTy κ) [.ref (ra), .int (x), .ref oa] (OUTW κ oa fo ++ (SW κ Sa g ++ (RC ra (Sa 0) f9 h9 a9 b9 p9 o9))) (S := Unit) (fun _ => some (.int (nI 1))) (fun _ => True) (fun _ => OUTW κ oa fo ++ (SW κ Sa g ++ (RC ra (Sa 0) f9 h9 a9 b9 p9 o9))) 1 6 := by
  refine zH_of (cc := cL_depthOf) (maxL := 4) (rt := some .int) (hh := [(0, 9, 12, 19)]) [(0, .ref (ra)), (1, .int (x)), (2, .ref (oa))] (by decide +kernel) rfl (Nat.le_of_ble_eq_true rfl) rfl ?_
  intro p e s m args below meth c A C hr9 hk htab hX
  have C : zC p s m args c cL_depthOf 4 wsL_depthOf RL D (zTy κ) A := C
  refine z_aload_n C dL_depthOf_0 2 rfl ?_
  refine z_iconst (v := nI 0) C dL_depthOf_1 (by decide) ?_
  refine z_aload_n C dL_depthOf_2 0 rfl ?_
  refine z_iload_n C dL_depthOf_3 1 rfl ?_
  refine zx_catchV C (aX_ok adK adV) hX (mX5_depthOf_no l D κ adK adV Sa g ra f9 h9 a9 b9 p9 o9 σ M x hls hr hv hx) gL_depthOf_X5_depthOf rfl rfl rfl hdX5_depthOf ⟨(Nat.le_of_ble_eq_true rfl), (Nat.le_of_ble_eq_true rfl)⟩ 13 rfl rfl (OUTW κ oa fo) (fun _ => OUTW κ oa fo ++ (SW κ Sa g ++ (RC ra (Sa 0) f9 h9 a9 b9 p9 o9))) List.perm_append_comm (fun _ => List.perm_append_comm) rfl (Nat.le_of_ble_eq_true rfl) dL_depthOf_4 ⟨(Nat.le_of_ble_eq_true rfl), (Nat.le_of_ble_eq_true rfl)⟩ [] ⟨0, 9, 12, 19⟩ [] htab (fun z hz => absurd hz List.not_mem_nil) (by decide) (by decide) (name := eIB) (show Cond.classLink RL 19 eIB ∈ wsL_depthOf from by decide +kernel) (hX.2.2.1 _ (by simp [nCs])) (fun u q hu => ?_)
  refine z_astore_n C [(3, .ref (q)), (0, .ref (ra)), (1, .int (x)), (2, .ref (oa))] dL_depthOf_12 (by decide) rfl ?_
  refine z_iconst (v := nI 1) C dL_depthOf_13 (by decide) ?_
  exact zh_iret C hr9 hk u rfl hu (List.Perm.of_eq rfl) dL_depthOf_14 (Nat.le_of_ble_eq_true rfl) (Nat.le_of_ble_eq_true rfl)
set_option maxRecDepth 100000 in
set_option maxHeartbeats 4000000 in
theorem mL_isBend_ok (l : Launch) (D : va_G) (κ : Nat → ClassId) (Sa : Nat → Nat) (g : Nat → Nat → Nat) (ra f9 h9 a9 b9 p9 o9 : Nat) (σ : Nat → Nat) (M : Nat) (b : Nat) (hr : Rep g σ) (hv : Inv M σ) (hb : b < σ 1) (adK adV : Nat → Nat) (oa : Nat) (fo : Nat → Int64) : zH (aX adK adV) l yL_isBend wsL_isBend { frames := 2, cells := 0, slots := 0, locals := 42 } D (zTy κ) [.ref ra, .int (nI b), .ref oa] (OUTW κ oa fo ++ (SW κ Sa g ++ (RC ra (Sa 0) f9 h9 a9 b9 p9 o9))) (S := Unit) (fun _ => some (.int (nI 0))) (fun _ => True) (fun _ => OUTW κ oa (vp_updL fo 0 (((nI (decide (σ (5 + 6 * b + 3) = 1)).toNat)).toInt64)) ++ (SW κ Sa g ++ (RC ra (Sa 0) f9 h9 a9 b9 p9 o9))) 0 0 := by
  refine zH_of (cc := cL_isBend) (maxL := 4) (rt := some .int) (hh := [(0, 16, 19, 19)]) [(0, .ref (ra)), (1, .int (nI b)), (2, .ref (oa))] (by decide +kernel) rfl (Nat.le_of_ble_eq_true rfl) rfl ?_
  intro p e s m args below meth c A C hr9 hk htab hX
  have C : zC p s m args c cL_isBend 4 wsL_isBend RL D (zTy κ) A := C
  refine z_aload_n C dL_isBend_0 2 rfl ?_
  refine z_iconst (v := nI 0) C dL_isBend_1 (by decide) ?_
  refine z_aload_n C dL_isBend_2 0 rfl ?_
  refine z_iload_n C dL_isBend_3 1 rfl ?_
  refine z_callV C (mX5_isBend_ok l D κ Sa g ra f9 h9 a9 b9 p9 o9 σ M b hr hv hb) gL_isBend_X5_isBend rfl rfl rfl hdX5_isBend ⟨(Nat.le_of_ble_eq_true rfl), (Nat.le_of_ble_eq_true rfl)⟩ 13 rfl rfl (OUTW κ oa fo) (fun _ => OUTW κ oa fo ++ (SW κ Sa g ++ (RC ra (Sa 0) f9 h9 a9 b9 p9 o9))) List.perm_append_comm (fun _ => List.perm_append_comm) rfl (Nat.le_of_ble_eq_true rfl) dL_isBend_4 ⟨(Nat.le_of_ble_eq_true rfl), (Nat.le_of_ble_eq_true rfl)⟩ (fun u hu => ?_)
  refine zb_if_eq C 14 dL_isBend_7 (by decide) (fun h1 => ?_) (fun h2 => ?_)
  · refine z_lconst (v := 0) C dL_isBend_14 (by decide) ?_
    refine z_last C 0 4 rfl rfl (i := 0) (by decide) (by decide) dL_isBend_15 (OUTW κ oa (vp_updL fo 0 (0)) ++ (SW κ Sa g ++ (RC ra (Sa 0) f9 h9 a9 b9 p9 o9))) rfl ?_
    refine z_goto (tgt := 22) C dL_isBend_16 (by decide) ?_
    refine z_iconst (v := nI 0) C dL_isBend_22 (by decide) ?_
    exact zh_iret C hr9 hk u rfl hu (List.Perm.of_eq (by rw [h1]; rfl)) dL_isBend_23 (Nat.le_of_ble_eq_true rfl) (Nat.le_of_ble_eq_true rfl)
  · refine z_lconst (v := 1) C dL_isBend_10 (by decide) ?_
    refine z_goto (tgt := 15) C dL_isBend_11 (by decide) ?_
    refine z_last C 0 4 rfl rfl (i := 0) (by decide) (by decide) dL_isBend_15 (OUTW κ oa (vp_updL fo 0 (1)) ++ (SW κ Sa g ++ (RC ra (Sa 0) f9 h9 a9 b9 p9 o9))) rfl ?_
    refine z_goto (tgt := 22) C dL_isBend_16 (by decide) ?_
    refine z_iconst (v := nI 0) C dL_isBend_22 (by decide) ?_
    exact zh_iret C hr9 hk u rfl hu (List.Perm.of_eq (by rw [h2]; rfl)) dL_isBend_23 (Nat.le_of_ble_eq_true rfl) (Nat.le_of_ble_eq_true rfl)
theorem hdL_isBend : yL_isBend.cls ≠ "java/lang/invoke/MethodHandle" ∧ yL_isBend.cls ≠ "java/lang/invoke/VarHandle" ∧ (parseMethodDescriptor yL_isBend.desc).map (fun d => d.parameters.length) = some 3 := by decide +kernel
set_option maxRecDepth 100000 in
set_option maxHeartbeats 4000000 in
theorem mL_isBend_no (l : Launch) (D : va_G) (κ : Nat → ClassId) (adK adV : Nat → Nat) (Sa : Nat → Nat) (g : Nat → Nat → Nat) (ra f9 h9 a9 b9 p9 o9 : Nat) (σ : Nat → Nat) (M : Nat) (x : Int32) (hls : l.stackTraces = false) (hr : Rep g σ) (hv : Inv M σ) (hx : isB (σ 1) x = false) (oa : Nat) (fo : Nat → Int64) : zH (aX adK adV) l yL_isBend wsL_isBend { frames := 8, cells := 1, slots := 6, locals := 124 } D (zTy κ) [.ref (ra), .int (x), .ref oa] (OUTW κ oa fo ++ (SW κ Sa g ++ (RC ra (Sa 0) f9 h9 a9 b9 p9 o9))) (S := Unit) (fun _ => some (.int (nI 1))) (fun _ => True) (fun _ => OUTW κ oa fo ++ (SW κ Sa g ++ (RC ra (Sa 0) f9 h9 a9 b9 p9 o9))) 1 6 := by
  refine zH_of (cc := cL_isBend) (maxL := 4) (rt := some .int) (hh := [(0, 16, 19, 19)]) [(0, .ref (ra)), (1, .int (x)), (2, .ref (oa))] (by decide +kernel) rfl (Nat.le_of_ble_eq_true rfl) rfl ?_
  intro p e s m args below meth c A C hr9 hk htab hX
  have C : zC p s m args c cL_isBend 4 wsL_isBend RL D (zTy κ) A := C
  refine z_aload_n C dL_isBend_0 2 rfl ?_
  refine z_iconst (v := nI 0) C dL_isBend_1 (by decide) ?_
  refine z_aload_n C dL_isBend_2 0 rfl ?_
  refine z_iload_n C dL_isBend_3 1 rfl ?_
  refine zx_catchV C (aX_ok adK adV) hX (mX5_isBend_no l D κ adK adV Sa g ra f9 h9 a9 b9 p9 o9 σ M x hls hr hv hx) gL_isBend_X5_isBend rfl rfl rfl hdX5_isBend ⟨(Nat.le_of_ble_eq_true rfl), (Nat.le_of_ble_eq_true rfl)⟩ 13 rfl rfl (OUTW κ oa fo) (fun _ => OUTW κ oa fo ++ (SW κ Sa g ++ (RC ra (Sa 0) f9 h9 a9 b9 p9 o9))) List.perm_append_comm (fun _ => List.perm_append_comm) rfl (Nat.le_of_ble_eq_true rfl) dL_isBend_4 ⟨(Nat.le_of_ble_eq_true rfl), (Nat.le_of_ble_eq_true rfl)⟩ [] ⟨0, 16, 19, 19⟩ [] htab (fun z hz => absurd hz List.not_mem_nil) (by decide) (by decide) (name := eIB) (show Cond.classLink RL 19 eIB ∈ wsL_isBend from by decide +kernel) (hX.2.2.1 _ (by simp [nCs])) (fun u q hu => ?_)
  refine z_astore_n C [(3, .ref (q)), (0, .ref (ra)), (1, .int (x)), (2, .ref (oa))] dL_isBend_19 (by decide) rfl ?_
  refine z_iconst (v := nI 1) C dL_isBend_20 (by decide) ?_
  exact zh_iret C hr9 hk u rfl hu (List.Perm.of_eq rfl) dL_isBend_21 (Nat.le_of_ble_eq_true rfl) (Nat.le_of_ble_eq_true rfl)
set_option maxRecDepth 100000 in
set_option maxHeartbeats 4000000 in
theorem mL_limitOf_ok (l : Launch) (D : va_G) (κ : Nat → ClassId) (Sa : Nat → Nat) (g : Nat → Nat → Nat) (ra f9 h9 a9 b9 p9 o9 : Nat) (σ : Nat → Nat) (M : Nat) (b : Nat) (hr : Rep g σ) (hv : Inv M σ) (hb : b < σ 1) (adK adV : Nat → Nat) (oa : Nat) (fo : Nat → Int64) : zH (aX adK adV) l yL_limitOf wsL_limitOf { frames := 2, cells := 0, slots := 0, locals := 42 } D (zTy κ) [.ref ra, .int (nI b), .ref oa] (OUTW κ oa fo ++ (SW κ Sa g ++ (RC ra (Sa 0) f9 h9 a9 b9 p9 o9))) (S := Unit) (fun _ => some (.int (nI 0))) (fun _ => True) (fun _ => OUTW κ oa (vp_updL fo 0 (((nI (σ (5 + 6 * b + 2)))).toInt64)) ++ (SW κ Sa g ++ (RC ra (Sa 0) f9 h9 a9 b9 p9 o9))) 0 0 := by
  refine zH_of (cc := cL_limitOf) (maxL := 4) (rt := some .int) (hh := [(0, 9, 12, 19)]) [(0, .ref (ra)), (1, .int (nI b)), (2, .ref (oa))] (by decide +kernel) rfl (Nat.le_of_ble_eq_true rfl) rfl ?_
  intro p e s m args below meth c A C hr9 hk htab hX
  have C : zC p s m args c cL_limitOf 4 wsL_limitOf RL D (zTy κ) A := C
  refine z_aload_n C dL_limitOf_0 2 rfl ?_
  refine z_iconst (v := nI 0) C dL_limitOf_1 (by decide) ?_
  refine z_aload_n C dL_limitOf_2 0 rfl ?_
  refine z_iload_n C dL_limitOf_3 1 rfl ?_
  refine z_callV C (mX5_limitOf_ok l D κ Sa g ra f9 h9 a9 b9 p9 o9 σ M b hr hv hb) gL_limitOf_X5_limitOf rfl rfl rfl hdX5_limitOf ⟨(Nat.le_of_ble_eq_true rfl), (Nat.le_of_ble_eq_true rfl)⟩ 13 rfl rfl (OUTW κ oa fo) (fun _ => OUTW κ oa fo ++ (SW κ Sa g ++ (RC ra (Sa 0) f9 h9 a9 b9 p9 o9))) List.perm_append_comm (fun _ => List.perm_append_comm) rfl (Nat.le_of_ble_eq_true rfl) dL_limitOf_4 ⟨(Nat.le_of_ble_eq_true rfl), (Nat.le_of_ble_eq_true rfl)⟩ (fun u hu => ?_)
  refine z_i2l C dL_limitOf_7 rfl ?_
  refine z_last C 0 4 rfl rfl (i := 0) (by decide) (by decide) dL_limitOf_8 (OUTW κ oa (vp_updL fo 0 (((nI (σ (5 + 6 * b + 2)))).toInt64)) ++ (SW κ Sa g ++ (RC ra (Sa 0) f9 h9 a9 b9 p9 o9))) rfl ?_
  refine z_goto (tgt := 15) C dL_limitOf_9 (by decide) ?_
  refine z_iconst (v := nI 0) C dL_limitOf_15 (by decide) ?_
  exact zh_iret C hr9 hk u rfl hu (List.Perm.of_eq rfl) dL_limitOf_16 (Nat.le_of_ble_eq_true rfl) (Nat.le_of_ble_eq_true rfl)
theorem hdL_limitOf : yL_limitOf.cls ≠ "java/lang/invoke/MethodHandle" ∧ yL_limitOf.cls ≠ "java/lang/invoke/VarHandle" ∧ (parseMethodDescriptor yL_limitOf.desc).map (fun d => d.parameters.length) = some 3 := by decide +kernel
set_option maxRecDepth 100000 in
set_option maxHeartbeats 4000000 in
theorem mL_limitOf_no (l : Launch) (D : va_G) (κ : Nat → ClassId) (adK adV : Nat → Nat) (Sa : Nat → Nat) (g : Nat → Nat → Nat) (ra f9 h9 a9 b9 p9 o9 : Nat) (σ : Nat → Nat) (M : Nat) (x : Int32) (hls : l.stackTraces = false) (hr : Rep g σ) (hv : Inv M σ) (hx : isB (σ 1) x = false) (oa : Nat) (fo : Nat → Int64) : zH (aX adK adV) l yL_limitOf wsL_limitOf { frames := 8, cells := 1, slots := 6, locals := 124 } D (zTy κ) [.ref (ra), .int (x), .ref oa] (OUTW κ oa fo ++ (SW κ Sa g ++ (RC ra (Sa 0) f9 h9 a9 b9 p9 o9))) (S := Unit) (fun _ => some (.int (nI 1))) (fun _ => True) (fun _ => OUTW κ oa fo ++ (SW κ Sa g ++ (RC ra (Sa 0) f9 h9 a9 b9 p9 o9))) 1 6 := by
  refine zH_of (cc := cL_limitOf) (maxL := 4) (rt := some .int) (hh := [(0, 9, 12, 19)]) [(0, .ref (ra)), (1, .int (x)), (2, .ref (oa))] (by decide +kernel) rfl (Nat.le_of_ble_eq_true rfl) rfl ?_
  intro p e s m args below meth c A C hr9 hk htab hX
  have C : zC p s m args c cL_limitOf 4 wsL_limitOf RL D (zTy κ) A := C
  refine z_aload_n C dL_limitOf_0 2 rfl ?_
  refine z_iconst (v := nI 0) C dL_limitOf_1 (by decide) ?_
  refine z_aload_n C dL_limitOf_2 0 rfl ?_
  refine z_iload_n C dL_limitOf_3 1 rfl ?_
  refine zx_catchV C (aX_ok adK adV) hX (mX5_limitOf_no l D κ adK adV Sa g ra f9 h9 a9 b9 p9 o9 σ M x hls hr hv hx) gL_limitOf_X5_limitOf rfl rfl rfl hdX5_limitOf ⟨(Nat.le_of_ble_eq_true rfl), (Nat.le_of_ble_eq_true rfl)⟩ 13 rfl rfl (OUTW κ oa fo) (fun _ => OUTW κ oa fo ++ (SW κ Sa g ++ (RC ra (Sa 0) f9 h9 a9 b9 p9 o9))) List.perm_append_comm (fun _ => List.perm_append_comm) rfl (Nat.le_of_ble_eq_true rfl) dL_limitOf_4 ⟨(Nat.le_of_ble_eq_true rfl), (Nat.le_of_ble_eq_true rfl)⟩ [] ⟨0, 9, 12, 19⟩ [] htab (fun z hz => absurd hz List.not_mem_nil) (by decide) (by decide) (name := eIB) (show Cond.classLink RL 19 eIB ∈ wsL_limitOf from by decide +kernel) (hX.2.2.1 _ (by simp [nCs])) (fun u q hu => ?_)
  refine z_astore_n C [(3, .ref (q)), (0, .ref (ra)), (1, .int (x)), (2, .ref (oa))] dL_limitOf_12 (by decide) rfl ?_
  refine z_iconst (v := nI 1) C dL_limitOf_13 (by decide) ?_
  exact zh_iret C hr9 hk u rfl hu (List.Perm.of_eq rfl) dL_limitOf_14 (Nat.le_of_ble_eq_true rfl) (Nat.le_of_ble_eq_true rfl)
set_option maxRecDepth 100000 in
set_option maxHeartbeats 4000000 in
theorem mL_isClear_ok (l : Launch) (D : va_G) (κ : Nat → ClassId) (Sa : Nat → Nat) (g : Nat → Nat → Nat) (ra f9 h9 a9 b9 p9 o9 : Nat) (σ : Nat → Nat) (M : Nat) (b : Nat) (hr : Rep g σ) (hv : Inv M σ) (hb : b < σ 1) (adK adV : Nat → Nat) (oa : Nat) (fo : Nat → Int64) : zH (aX adK adV) l yL_isClear wsL_isClear { frames := 2, cells := 0, slots := 0, locals := 42 } D (zTy κ) [.ref ra, .int (nI b), .ref oa] (OUTW κ oa fo ++ (SW κ Sa g ++ (RC ra (Sa 0) f9 h9 a9 b9 p9 o9))) (S := Unit) (fun _ => some (.int (nI 0))) (fun _ => True) (fun _ => OUTW κ oa (vp_updL fo 0 (((nI (decide (σ (5 + 6 * b + 4) = 1)).toNat)).toInt64)) ++ (SW κ Sa g ++ (RC ra (Sa 0) f9 h9 a9 b9 p9 o9))) 0 0 := by
  refine zH_of (cc := cL_isClear) (maxL := 4) (rt := some .int) (hh := [(0, 16, 19, 19)]) [(0, .ref (ra)), (1, .int (nI b)), (2, .ref (oa))] (by decide +kernel) rfl (Nat.le_of_ble_eq_true rfl) rfl ?_
  intro p e s m args below meth c A C hr9 hk htab hX
  have C : zC p s m args c cL_isClear 4 wsL_isClear RL D (zTy κ) A := C
  refine z_aload_n C dL_isClear_0 2 rfl ?_
  refine z_iconst (v := nI 0) C dL_isClear_1 (by decide) ?_
  refine z_aload_n C dL_isClear_2 0 rfl ?_
  refine z_iload_n C dL_isClear_3 1 rfl ?_
  refine z_callV C (mX5_isClear_ok l D κ Sa g ra f9 h9 a9 b9 p9 o9 σ M b hr hv hb) gL_isClear_X5_isClear rfl rfl rfl hdX5_isClear ⟨(Nat.le_of_ble_eq_true rfl), (Nat.le_of_ble_eq_true rfl)⟩ 13 rfl rfl (OUTW κ oa fo) (fun _ => OUTW κ oa fo ++ (SW κ Sa g ++ (RC ra (Sa 0) f9 h9 a9 b9 p9 o9))) List.perm_append_comm (fun _ => List.perm_append_comm) rfl (Nat.le_of_ble_eq_true rfl) dL_isClear_4 ⟨(Nat.le_of_ble_eq_true rfl), (Nat.le_of_ble_eq_true rfl)⟩ (fun u hu => ?_)
  refine zb_if_eq C 14 dL_isClear_7 (by decide) (fun h1 => ?_) (fun h2 => ?_)
  · refine z_lconst (v := 0) C dL_isClear_14 (by decide) ?_
    refine z_last C 0 4 rfl rfl (i := 0) (by decide) (by decide) dL_isClear_15 (OUTW κ oa (vp_updL fo 0 (0)) ++ (SW κ Sa g ++ (RC ra (Sa 0) f9 h9 a9 b9 p9 o9))) rfl ?_
    refine z_goto (tgt := 22) C dL_isClear_16 (by decide) ?_
    refine z_iconst (v := nI 0) C dL_isClear_22 (by decide) ?_
    exact zh_iret C hr9 hk u rfl hu (List.Perm.of_eq (by rw [h1]; rfl)) dL_isClear_23 (Nat.le_of_ble_eq_true rfl) (Nat.le_of_ble_eq_true rfl)
  · refine z_lconst (v := 1) C dL_isClear_10 (by decide) ?_
    refine z_goto (tgt := 15) C dL_isClear_11 (by decide) ?_
    refine z_last C 0 4 rfl rfl (i := 0) (by decide) (by decide) dL_isClear_15 (OUTW κ oa (vp_updL fo 0 (1)) ++ (SW κ Sa g ++ (RC ra (Sa 0) f9 h9 a9 b9 p9 o9))) rfl ?_
    refine z_goto (tgt := 22) C dL_isClear_16 (by decide) ?_
    refine z_iconst (v := nI 0) C dL_isClear_22 (by decide) ?_
    exact zh_iret C hr9 hk u rfl hu (List.Perm.of_eq (by rw [h2]; rfl)) dL_isClear_23 (Nat.le_of_ble_eq_true rfl) (Nat.le_of_ble_eq_true rfl)
theorem hdL_isClear : yL_isClear.cls ≠ "java/lang/invoke/MethodHandle" ∧ yL_isClear.cls ≠ "java/lang/invoke/VarHandle" ∧ (parseMethodDescriptor yL_isClear.desc).map (fun d => d.parameters.length) = some 3 := by decide +kernel
set_option maxRecDepth 100000 in
set_option maxHeartbeats 4000000 in
theorem mL_isClear_no (l : Launch) (D : va_G) (κ : Nat → ClassId) (adK adV : Nat → Nat) (Sa : Nat → Nat) (g : Nat → Nat → Nat) (ra f9 h9 a9 b9 p9 o9 : Nat) (σ : Nat → Nat) (M : Nat) (x : Int32) (hls : l.stackTraces = false) (hr : Rep g σ) (hv : Inv M σ) (hx : isB (σ 1) x = false) (oa : Nat) (fo : Nat → Int64) : zH (aX adK adV) l yL_isClear wsL_isClear { frames := 8, cells := 1, slots := 6, locals := 124 } D (zTy κ) [.ref (ra), .int (x), .ref oa] (OUTW κ oa fo ++ (SW κ Sa g ++ (RC ra (Sa 0) f9 h9 a9 b9 p9 o9))) (S := Unit) (fun _ => some (.int (nI 1))) (fun _ => True) (fun _ => OUTW κ oa fo ++ (SW κ Sa g ++ (RC ra (Sa 0) f9 h9 a9 b9 p9 o9))) 1 6 := by
  refine zH_of (cc := cL_isClear) (maxL := 4) (rt := some .int) (hh := [(0, 16, 19, 19)]) [(0, .ref (ra)), (1, .int (x)), (2, .ref (oa))] (by decide +kernel) rfl (Nat.le_of_ble_eq_true rfl) rfl ?_
  intro p e s m args below meth c A C hr9 hk htab hX
  have C : zC p s m args c cL_isClear 4 wsL_isClear RL D (zTy κ) A := C
  refine z_aload_n C dL_isClear_0 2 rfl ?_
  refine z_iconst (v := nI 0) C dL_isClear_1 (by decide) ?_
  refine z_aload_n C dL_isClear_2 0 rfl ?_
  refine z_iload_n C dL_isClear_3 1 rfl ?_
  refine zx_catchV C (aX_ok adK adV) hX (mX5_isClear_no l D κ adK adV Sa g ra f9 h9 a9 b9 p9 o9 σ M x hls hr hv hx) gL_isClear_X5_isClear rfl rfl rfl hdX5_isClear ⟨(Nat.le_of_ble_eq_true rfl), (Nat.le_of_ble_eq_true rfl)⟩ 13 rfl rfl (OUTW κ oa fo) (fun _ => OUTW κ oa fo ++ (SW κ Sa g ++ (RC ra (Sa 0) f9 h9 a9 b9 p9 o9))) List.perm_append_comm (fun _ => List.perm_append_comm) rfl (Nat.le_of_ble_eq_true rfl) dL_isClear_4 ⟨(Nat.le_of_ble_eq_true rfl), (Nat.le_of_ble_eq_true rfl)⟩ [] ⟨0, 16, 19, 19⟩ [] htab (fun z hz => absurd hz List.not_mem_nil) (by decide) (by decide) (name := eIB) (show Cond.classLink RL 19 eIB ∈ wsL_isClear from by decide +kernel) (hX.2.2.1 _ (by simp [nCs])) (fun u q hu => ?_)
  refine z_astore_n C [(3, .ref (q)), (0, .ref (ra)), (1, .int (x)), (2, .ref (oa))] dL_isClear_19 (by decide) rfl ?_
  refine z_iconst (v := nI 1) C dL_isClear_20 (by decide) ?_
  exact zh_iret C hr9 hk u rfl hu (List.Perm.of_eq rfl) dL_isClear_21 (Nat.le_of_ble_eq_true rfl) (Nat.le_of_ble_eq_true rfl)
set_option maxRecDepth 100000 in
set_option maxHeartbeats 4000000 in
theorem mL_trainIn_ok (l : Launch) (D : va_G) (κ : Nat → ClassId) (Sa : Nat → Nat) (g : Nat → Nat → Nat) (ra f9 h9 a9 b9 p9 o9 : Nat) (σ : Nat → Nat) (M : Nat) (b : Nat) (hr : Rep g σ) (hv : Inv M σ) (hb : b < σ 1) (adK adV : Nat → Nat) (oa : Nat) (fo : Nat → Int64) : zH (aX adK adV) l yL_trainIn wsL_trainIn { frames := 2, cells := 0, slots := 0, locals := 42 } D (zTy κ) [.ref ra, .int (nI b), .ref oa] (OUTW κ oa fo ++ (SW κ Sa g ++ (RC ra (Sa 0) f9 h9 a9 b9 p9 o9))) (S := Unit) (fun _ => some (.int (nI 0))) (fun _ => True) (fun _ => OUTW κ oa (vp_updL fo 0 (((tI (trAt σ b))).toInt64)) ++ (SW κ Sa g ++ (RC ra (Sa 0) f9 h9 a9 b9 p9 o9))) 0 0 := by
  refine zH_of (cc := cL_trainIn) (maxL := 4) (rt := some .int) (hh := [(0, 9, 12, 19)]) [(0, .ref (ra)), (1, .int (nI b)), (2, .ref (oa))] (by decide +kernel) rfl (Nat.le_of_ble_eq_true rfl) rfl ?_
  intro p e s m args below meth c A C hr9 hk htab hX
  have C : zC p s m args c cL_trainIn 4 wsL_trainIn RL D (zTy κ) A := C
  refine z_aload_n C dL_trainIn_0 2 rfl ?_
  refine z_iconst (v := nI 0) C dL_trainIn_1 (by decide) ?_
  refine z_aload_n C dL_trainIn_2 0 rfl ?_
  refine z_iload_n C dL_trainIn_3 1 rfl ?_
  refine z_callV C (mX5_trainIn_ok l D κ Sa g ra f9 h9 a9 b9 p9 o9 σ M b hr hv hb) gL_trainIn_X5_trainIn rfl rfl rfl hdX5_trainIn ⟨(Nat.le_of_ble_eq_true rfl), (Nat.le_of_ble_eq_true rfl)⟩ 13 rfl rfl (OUTW κ oa fo) (fun _ => OUTW κ oa fo ++ (SW κ Sa g ++ (RC ra (Sa 0) f9 h9 a9 b9 p9 o9))) List.perm_append_comm (fun _ => List.perm_append_comm) rfl (Nat.le_of_ble_eq_true rfl) dL_trainIn_4 ⟨(Nat.le_of_ble_eq_true rfl), (Nat.le_of_ble_eq_true rfl)⟩ (fun u hu => ?_)
  refine z_i2l C dL_trainIn_7 rfl ?_
  refine z_last C 0 4 rfl rfl (i := 0) (by decide) (by decide) dL_trainIn_8 (OUTW κ oa (vp_updL fo 0 (((tI (trAt σ b))).toInt64)) ++ (SW κ Sa g ++ (RC ra (Sa 0) f9 h9 a9 b9 p9 o9))) rfl ?_
  refine z_goto (tgt := 15) C dL_trainIn_9 (by decide) ?_
  refine z_iconst (v := nI 0) C dL_trainIn_15 (by decide) ?_
  exact zh_iret C hr9 hk u rfl hu (List.Perm.of_eq rfl) dL_trainIn_16 (Nat.le_of_ble_eq_true rfl) (Nat.le_of_ble_eq_true rfl)
theorem hdL_trainIn : yL_trainIn.cls ≠ "java/lang/invoke/MethodHandle" ∧ yL_trainIn.cls ≠ "java/lang/invoke/VarHandle" ∧ (parseMethodDescriptor yL_trainIn.desc).map (fun d => d.parameters.length) = some 3 := by decide +kernel
set_option maxRecDepth 100000 in
set_option maxHeartbeats 4000000 in
theorem mL_trainIn_no (l : Launch) (D : va_G) (κ : Nat → ClassId) (adK adV : Nat → Nat) (Sa : Nat → Nat) (g : Nat → Nat → Nat) (ra f9 h9 a9 b9 p9 o9 : Nat) (σ : Nat → Nat) (M : Nat) (x : Int32) (hls : l.stackTraces = false) (hr : Rep g σ) (hv : Inv M σ) (hx : isB (σ 1) x = false) (oa : Nat) (fo : Nat → Int64) : zH (aX adK adV) l yL_trainIn wsL_trainIn { frames := 8, cells := 1, slots := 6, locals := 124 } D (zTy κ) [.ref (ra), .int (x), .ref oa] (OUTW κ oa fo ++ (SW κ Sa g ++ (RC ra (Sa 0) f9 h9 a9 b9 p9 o9))) (S := Unit) (fun _ => some (.int (nI 1))) (fun _ => True) (fun _ => OUTW κ oa fo ++ (SW κ Sa g ++ (RC ra (Sa 0) f9 h9 a9 b9 p9 o9))) 1 6 := by
  refine zH_of (cc := cL_trainIn) (maxL := 4) (rt := some .int) (hh := [(0, 9, 12, 19)]) [(0, .ref (ra)), (1, .int (x)), (2, .ref (oa))] (by decide +kernel) rfl (Nat.le_of_ble_eq_true rfl) rfl ?_
  intro p e s m args below meth c A C hr9 hk htab hX
  have C : zC p s m args c cL_trainIn 4 wsL_trainIn RL D (zTy κ) A := C
  refine z_aload_n C dL_trainIn_0 2 rfl ?_
  refine z_iconst (v := nI 0) C dL_trainIn_1 (by decide) ?_
  refine z_aload_n C dL_trainIn_2 0 rfl ?_
  refine z_iload_n C dL_trainIn_3 1 rfl ?_
  refine zx_catchV C (aX_ok adK adV) hX (mX5_trainIn_no l D κ adK adV Sa g ra f9 h9 a9 b9 p9 o9 σ M x hls hr hv hx) gL_trainIn_X5_trainIn rfl rfl rfl hdX5_trainIn ⟨(Nat.le_of_ble_eq_true rfl), (Nat.le_of_ble_eq_true rfl)⟩ 13 rfl rfl (OUTW κ oa fo) (fun _ => OUTW κ oa fo ++ (SW κ Sa g ++ (RC ra (Sa 0) f9 h9 a9 b9 p9 o9))) List.perm_append_comm (fun _ => List.perm_append_comm) rfl (Nat.le_of_ble_eq_true rfl) dL_trainIn_4 ⟨(Nat.le_of_ble_eq_true rfl), (Nat.le_of_ble_eq_true rfl)⟩ [] ⟨0, 9, 12, 19⟩ [] htab (fun z hz => absurd hz List.not_mem_nil) (by decide) (by decide) (name := eIB) (show Cond.classLink RL 19 eIB ∈ wsL_trainIn from by decide +kernel) (hX.2.2.1 _ (by simp [nCs])) (fun u q hu => ?_)
  refine z_astore_n C [(3, .ref (q)), (0, .ref (ra)), (1, .int (x)), (2, .ref (oa))] dL_trainIn_12 (by decide) rfl ?_
  refine z_iconst (v := nI 1) C dL_trainIn_13 (by decide) ?_
  exact zh_iret C hr9 hk u rfl hu (List.Perm.of_eq rfl) dL_trainIn_14 (Nat.le_of_ble_eq_true rfl) (Nat.le_of_ble_eq_true rfl)
set_option maxRecDepth 100000 in
set_option maxHeartbeats 4000000 in
theorem mL_lostIn_ok (l : Launch) (D : va_G) (κ : Nat → ClassId) (Sa : Nat → Nat) (g : Nat → Nat → Nat) (ra f9 h9 a9 b9 p9 o9 : Nat) (σ : Nat → Nat) (M : Nat) (b : Nat) (hr : Rep g σ) (hv : Inv M σ) (hb : b < σ 1) (adK adV : Nat → Nat) (oa : Nat) (fo : Nat → Int64) : zH (aX adK adV) l yL_lostIn wsL_lostIn { frames := 2, cells := 0, slots := 0, locals := 42 } D (zTy κ) [.ref ra, .int (nI b), .ref oa] (OUTW κ oa fo ++ (SW κ Sa g ++ (RC ra (Sa 0) f9 h9 a9 b9 p9 o9))) (S := Unit) (fun _ => some (.int (nI 0))) (fun _ => True) (fun _ => OUTW κ oa (vp_updL fo 0 (((nI (σ (5 + 6 * b + 5)))).toInt64)) ++ (SW κ Sa g ++ (RC ra (Sa 0) f9 h9 a9 b9 p9 o9))) 0 0 := by
  refine zH_of (cc := cL_lostIn) (maxL := 4) (rt := some .int) (hh := [(0, 9, 12, 19)]) [(0, .ref (ra)), (1, .int (nI b)), (2, .ref (oa))] (by decide +kernel) rfl (Nat.le_of_ble_eq_true rfl) rfl ?_
  intro p e s m args below meth c A C hr9 hk htab hX
  have C : zC p s m args c cL_lostIn 4 wsL_lostIn RL D (zTy κ) A := C
  refine z_aload_n C dL_lostIn_0 2 rfl ?_
  refine z_iconst (v := nI 0) C dL_lostIn_1 (by decide) ?_
  refine z_aload_n C dL_lostIn_2 0 rfl ?_
  refine z_iload_n C dL_lostIn_3 1 rfl ?_
  refine z_callV C (mX5_lostIn_ok l D κ Sa g ra f9 h9 a9 b9 p9 o9 σ M b hr hv hb) gL_lostIn_X5_lostIn rfl rfl rfl hdX5_lostIn ⟨(Nat.le_of_ble_eq_true rfl), (Nat.le_of_ble_eq_true rfl)⟩ 13 rfl rfl (OUTW κ oa fo) (fun _ => OUTW κ oa fo ++ (SW κ Sa g ++ (RC ra (Sa 0) f9 h9 a9 b9 p9 o9))) List.perm_append_comm (fun _ => List.perm_append_comm) rfl (Nat.le_of_ble_eq_true rfl) dL_lostIn_4 ⟨(Nat.le_of_ble_eq_true rfl), (Nat.le_of_ble_eq_true rfl)⟩ (fun u hu => ?_)
  refine z_i2l C dL_lostIn_7 rfl ?_
  refine z_last C 0 4 rfl rfl (i := 0) (by decide) (by decide) dL_lostIn_8 (OUTW κ oa (vp_updL fo 0 (((nI (σ (5 + 6 * b + 5)))).toInt64)) ++ (SW κ Sa g ++ (RC ra (Sa 0) f9 h9 a9 b9 p9 o9))) rfl ?_
  refine z_goto (tgt := 15) C dL_lostIn_9 (by decide) ?_
  refine z_iconst (v := nI 0) C dL_lostIn_15 (by decide) ?_
  exact zh_iret C hr9 hk u rfl hu (List.Perm.of_eq rfl) dL_lostIn_16 (Nat.le_of_ble_eq_true rfl) (Nat.le_of_ble_eq_true rfl)
theorem hdL_lostIn : yL_lostIn.cls ≠ "java/lang/invoke/MethodHandle" ∧ yL_lostIn.cls ≠ "java/lang/invoke/VarHandle" ∧ (parseMethodDescriptor yL_lostIn.desc).map (fun d => d.parameters.length) = some 3 := by decide +kernel
set_option maxRecDepth 100000 in
set_option maxHeartbeats 4000000 in
theorem mL_lostIn_no (l : Launch) (D : va_G) (κ : Nat → ClassId) (adK adV : Nat → Nat) (Sa : Nat → Nat) (g : Nat → Nat → Nat) (ra f9 h9 a9 b9 p9 o9 : Nat) (σ : Nat → Nat) (M : Nat) (x : Int32) (hls : l.stackTraces = false) (hr : Rep g σ) (hv : Inv M σ) (hx : isB (σ 1) x = false) (oa : Nat) (fo : Nat → Int64) : zH (aX adK adV) l yL_lostIn wsL_lostIn { frames := 8, cells := 1, slots := 6, locals := 124 } D (zTy κ) [.ref (ra), .int (x), .ref oa] (OUTW κ oa fo ++ (SW κ Sa g ++ (RC ra (Sa 0) f9 h9 a9 b9 p9 o9))) (S := Unit) (fun _ => some (.int (nI 1))) (fun _ => True) (fun _ => OUTW κ oa fo ++ (SW κ Sa g ++ (RC ra (Sa 0) f9 h9 a9 b9 p9 o9))) 1 6 := by
  refine zH_of (cc := cL_lostIn) (maxL := 4) (rt := some .int) (hh := [(0, 9, 12, 19)]) [(0, .ref (ra)), (1, .int (x)), (2, .ref (oa))] (by decide +kernel) rfl (Nat.le_of_ble_eq_true rfl) rfl ?_
  intro p e s m args below meth c A C hr9 hk htab hX
  have C : zC p s m args c cL_lostIn 4 wsL_lostIn RL D (zTy κ) A := C
  refine z_aload_n C dL_lostIn_0 2 rfl ?_
  refine z_iconst (v := nI 0) C dL_lostIn_1 (by decide) ?_
  refine z_aload_n C dL_lostIn_2 0 rfl ?_
  refine z_iload_n C dL_lostIn_3 1 rfl ?_
  refine zx_catchV C (aX_ok adK adV) hX (mX5_lostIn_no l D κ adK adV Sa g ra f9 h9 a9 b9 p9 o9 σ M x hls hr hv hx) gL_lostIn_X5_lostIn rfl rfl rfl hdX5_lostIn ⟨(Nat.le_of_ble_eq_true rfl), (Nat.le_of_ble_eq_true rfl)⟩ 13 rfl rfl (OUTW κ oa fo) (fun _ => OUTW κ oa fo ++ (SW κ Sa g ++ (RC ra (Sa 0) f9 h9 a9 b9 p9 o9))) List.perm_append_comm (fun _ => List.perm_append_comm) rfl (Nat.le_of_ble_eq_true rfl) dL_lostIn_4 ⟨(Nat.le_of_ble_eq_true rfl), (Nat.le_of_ble_eq_true rfl)⟩ [] ⟨0, 9, 12, 19⟩ [] htab (fun z hz => absurd hz List.not_mem_nil) (by decide) (by decide) (name := eIB) (show Cond.classLink RL 19 eIB ∈ wsL_lostIn from by decide +kernel) (hX.2.2.1 _ (by simp [nCs])) (fun u q hu => ?_)
  refine z_astore_n C [(3, .ref (q)), (0, .ref (ra)), (1, .int (x)), (2, .ref (oa))] dL_lostIn_12 (by decide) rfl ?_
  refine z_iconst (v := nI 1) C dL_lostIn_13 (by decide) ?_
  exact zh_iret C hr9 hk u rfl hu (List.Perm.of_eq rfl) dL_lostIn_14 (Nat.le_of_ble_eq_true rfl) (Nat.le_of_ble_eq_true rfl)
set_option maxRecDepth 100000 in
set_option maxHeartbeats 4000000 in
theorem mL_departuresFrom_ok (l : Launch) (D : va_G) (κ : Nat → ClassId) (Sa : Nat → Nat) (g : Nat → Nat → Nat) (ra f9 h9 a9 b9 p9 o9 : Nat) (σ : Nat → Nat) (M : Nat) (b : Nat) (hr : Rep g σ) (hv : Inv M σ) (hb : b < σ 1) (adK adV : Nat → Nat) (oa : Nat) (fo : Nat → Int64) : zH (aX adK adV) l yL_departuresFrom wsL_departuresFrom { frames := 2, cells := 0, slots := 0, locals := 45 } D (zTy κ) [.ref ra, .int (nI b), .ref oa] (OUTW κ oa fo ++ (SW κ Sa g ++ (RC ra (Sa 0) f9 h9 a9 b9 p9 o9))) (S := Unit) (fun _ => some (.int (nI 0))) (fun _ => True) (fun _ => OUTW κ oa (vp_updL fo 0 (((nI (sumL (fun i => σ (90 + 10 * i + b)) (σ 2)))).toInt64)) ++ (SW κ Sa g ++ (RC ra (Sa 0) f9 h9 a9 b9 p9 o9))) 0 0 := by
  refine zH_of (cc := cL_departuresFrom) (maxL := 4) (rt := some .int) (hh := [(0, 9, 12, 19)]) [(0, .ref (ra)), (1, .int (nI b)), (2, .ref (oa))] (by decide +kernel) rfl (Nat.le_of_ble_eq_true rfl) rfl ?_
  intro p e s m args below meth c A C hr9 hk htab hX
  have C : zC p s m args c cL_departuresFrom 4 wsL_departuresFrom RL D (zTy κ) A := C
  refine z_aload_n C dL_departuresFrom_0 2 rfl ?_
  refine z_iconst (v := nI 0) C dL_departuresFrom_1 (by decide) ?_
  refine z_aload_n C dL_departuresFrom_2 0 rfl ?_
  refine z_iload_n C dL_departuresFrom_3 1 rfl ?_
  refine z_callV C (mX5_departuresFrom_ok l D κ Sa g ra f9 h9 a9 b9 p9 o9 σ M b hr hv hb) gL_departuresFrom_X5_departuresFrom rfl rfl rfl hdX5_departuresFrom ⟨(Nat.le_of_ble_eq_true rfl), (Nat.le_of_ble_eq_true rfl)⟩ 13 rfl rfl (OUTW κ oa fo) (fun _ => OUTW κ oa fo ++ (SW κ Sa g ++ (RC ra (Sa 0) f9 h9 a9 b9 p9 o9))) List.perm_append_comm (fun _ => List.perm_append_comm) rfl (Nat.le_of_ble_eq_true rfl) dL_departuresFrom_4 ⟨(Nat.le_of_ble_eq_true rfl), (Nat.le_of_ble_eq_true rfl)⟩ (fun u hu => ?_)
  refine z_i2l C dL_departuresFrom_7 rfl ?_
  refine z_last C 0 4 rfl rfl (i := 0) (by decide) (by decide) dL_departuresFrom_8 (OUTW κ oa (vp_updL fo 0 (((nI (sumL (fun i => σ (90 + 10 * i + b)) (σ 2)))).toInt64)) ++ (SW κ Sa g ++ (RC ra (Sa 0) f9 h9 a9 b9 p9 o9))) rfl ?_
  refine z_goto (tgt := 15) C dL_departuresFrom_9 (by decide) ?_
  refine z_iconst (v := nI 0) C dL_departuresFrom_15 (by decide) ?_
  exact zh_iret C hr9 hk u rfl hu (List.Perm.of_eq rfl) dL_departuresFrom_16 (Nat.le_of_ble_eq_true rfl) (Nat.le_of_ble_eq_true rfl)
theorem hdL_departuresFrom : yL_departuresFrom.cls ≠ "java/lang/invoke/MethodHandle" ∧ yL_departuresFrom.cls ≠ "java/lang/invoke/VarHandle" ∧ (parseMethodDescriptor yL_departuresFrom.desc).map (fun d => d.parameters.length) = some 3 := by decide +kernel
set_option maxRecDepth 100000 in
set_option maxHeartbeats 4000000 in
theorem mL_departuresFrom_no (l : Launch) (D : va_G) (κ : Nat → ClassId) (adK adV : Nat → Nat) (Sa : Nat → Nat) (g : Nat → Nat → Nat) (ra f9 h9 a9 b9 p9 o9 : Nat) (σ : Nat → Nat) (M : Nat) (x : Int32) (hls : l.stackTraces = false) (hr : Rep g σ) (hv : Inv M σ) (hx : isB (σ 1) x = false) (oa : Nat) (fo : Nat → Int64) : zH (aX adK adV) l yL_departuresFrom wsL_departuresFrom { frames := 8, cells := 1, slots := 6, locals := 126 } D (zTy κ) [.ref (ra), .int (x), .ref oa] (OUTW κ oa fo ++ (SW κ Sa g ++ (RC ra (Sa 0) f9 h9 a9 b9 p9 o9))) (S := Unit) (fun _ => some (.int (nI 1))) (fun _ => True) (fun _ => OUTW κ oa fo ++ (SW κ Sa g ++ (RC ra (Sa 0) f9 h9 a9 b9 p9 o9))) 1 6 := by
  refine zH_of (cc := cL_departuresFrom) (maxL := 4) (rt := some .int) (hh := [(0, 9, 12, 19)]) [(0, .ref (ra)), (1, .int (x)), (2, .ref (oa))] (by decide +kernel) rfl (Nat.le_of_ble_eq_true rfl) rfl ?_
  intro p e s m args below meth c A C hr9 hk htab hX
  have C : zC p s m args c cL_departuresFrom 4 wsL_departuresFrom RL D (zTy κ) A := C
  refine z_aload_n C dL_departuresFrom_0 2 rfl ?_
  refine z_iconst (v := nI 0) C dL_departuresFrom_1 (by decide) ?_
  refine z_aload_n C dL_departuresFrom_2 0 rfl ?_
  refine z_iload_n C dL_departuresFrom_3 1 rfl ?_
  refine zx_catchV C (aX_ok adK adV) hX (mX5_departuresFrom_no l D κ adK adV Sa g ra f9 h9 a9 b9 p9 o9 σ M x hls hr hv hx) gL_departuresFrom_X5_departuresFrom rfl rfl rfl hdX5_departuresFrom ⟨(Nat.le_of_ble_eq_true rfl), (Nat.le_of_ble_eq_true rfl)⟩ 13 rfl rfl (OUTW κ oa fo) (fun _ => OUTW κ oa fo ++ (SW κ Sa g ++ (RC ra (Sa 0) f9 h9 a9 b9 p9 o9))) List.perm_append_comm (fun _ => List.perm_append_comm) rfl (Nat.le_of_ble_eq_true rfl) dL_departuresFrom_4 ⟨(Nat.le_of_ble_eq_true rfl), (Nat.le_of_ble_eq_true rfl)⟩ [] ⟨0, 9, 12, 19⟩ [] htab (fun z hz => absurd hz List.not_mem_nil) (by decide) (by decide) (name := eIB) (show Cond.classLink RL 19 eIB ∈ wsL_departuresFrom from by decide +kernel) (hX.2.2.1 _ (by simp [nCs])) (fun u q hu => ?_)
  refine z_astore_n C [(3, .ref (q)), (0, .ref (ra)), (1, .int (x)), (2, .ref (oa))] dL_departuresFrom_12 (by decide) rfl ?_
  refine z_iconst (v := nI 1) C dL_departuresFrom_13 (by decide) ?_
  exact zh_iret C hr9 hk u rfl hu (List.Perm.of_eq rfl) dL_departuresFrom_14 (Nat.le_of_ble_eq_true rfl) (Nat.le_of_ble_eq_true rfl)
set_option maxRecDepth 100000 in
set_option maxHeartbeats 4000000 in
theorem mL_obstacle_ok (l : Launch) (D : va_G) (κ : Nat → ClassId) (Sa : Nat → Nat) (g : Nat → Nat → Nat) (ra f9 h9 a9 b9 p9 o9 : Nat) (σ : Nat → Nat) (M : Nat) (b : Nat) (hr : Rep g σ) (hv : Inv M σ) (hb : b < σ 1) (adK adV : Nat → Nat) (oa : Nat) (fo : Nat → Int64) : zH (aX adK adV) l yL_obstacle wsL_obstacle { frames := 3, cells := 0, slots := 0, locals := 63 } D (zTy κ) [.ref ra, .int (nI b), .ref oa] (OUTW κ oa fo ++ (SW κ Sa g ++ (RC ra (Sa 0) f9 h9 a9 b9 p9 o9))) (S := Unit) (fun _ => some (.int (nI 0))) (fun _ => True) (fun _ => OUTW κ oa (vp_updL fo 0 (((nI (rsn σ b))).toInt64)) ++ (SW κ Sa g ++ (RC ra (Sa 0) f9 h9 a9 b9 p9 o9))) 0 0 := by
  refine zH_of (cc := cL_obstacle) (maxL := 4) (rt := some .int) (hh := [(0, 9, 12, 19)]) [(0, .ref (ra)), (1, .int (nI b)), (2, .ref (oa))] (by decide +kernel) rfl (Nat.le_of_ble_eq_true rfl) rfl ?_
  intro p e s m args below meth c A C hr9 hk htab hX
  have C : zC p s m args c cL_obstacle 4 wsL_obstacle RL D (zTy κ) A := C
  refine z_aload_n C dL_obstacle_0 2 rfl ?_
  refine z_iconst (v := nI 0) C dL_obstacle_1 (by decide) ?_
  refine z_aload_n C dL_obstacle_2 0 rfl ?_
  refine z_iload_n C dL_obstacle_3 1 rfl ?_
  refine z_callV C (mX5_obstacle_ok l D κ Sa g ra f9 h9 a9 b9 p9 o9 σ M b hr hv hb) gL_obstacle_X5_obstacle rfl rfl rfl hdX5_obstacle ⟨(Nat.le_of_ble_eq_true rfl), (Nat.le_of_ble_eq_true rfl)⟩ 13 rfl rfl (OUTW κ oa fo) (fun _ => OUTW κ oa fo ++ (SW κ Sa g ++ (RC ra (Sa 0) f9 h9 a9 b9 p9 o9))) List.perm_append_comm (fun _ => List.perm_append_comm) rfl (Nat.le_of_ble_eq_true rfl) dL_obstacle_4 ⟨(Nat.le_of_ble_eq_true rfl), (Nat.le_of_ble_eq_true rfl)⟩ (fun u hu => ?_)
  refine z_i2l C dL_obstacle_7 rfl ?_
  refine z_last C 0 4 rfl rfl (i := 0) (by decide) (by decide) dL_obstacle_8 (OUTW κ oa (vp_updL fo 0 (((nI (rsn σ b))).toInt64)) ++ (SW κ Sa g ++ (RC ra (Sa 0) f9 h9 a9 b9 p9 o9))) rfl ?_
  refine z_goto (tgt := 15) C dL_obstacle_9 (by decide) ?_
  refine z_iconst (v := nI 0) C dL_obstacle_15 (by decide) ?_
  exact zh_iret C hr9 hk u rfl hu (List.Perm.of_eq rfl) dL_obstacle_16 (Nat.le_of_ble_eq_true rfl) (Nat.le_of_ble_eq_true rfl)
theorem hdL_obstacle : yL_obstacle.cls ≠ "java/lang/invoke/MethodHandle" ∧ yL_obstacle.cls ≠ "java/lang/invoke/VarHandle" ∧ (parseMethodDescriptor yL_obstacle.desc).map (fun d => d.parameters.length) = some 3 := by decide +kernel
set_option maxRecDepth 100000 in
set_option maxHeartbeats 4000000 in
theorem mL_obstacle_no (l : Launch) (D : va_G) (κ : Nat → ClassId) (adK adV : Nat → Nat) (Sa : Nat → Nat) (g : Nat → Nat → Nat) (ra f9 h9 a9 b9 p9 o9 : Nat) (σ : Nat → Nat) (M : Nat) (x : Int32) (hls : l.stackTraces = false) (hr : Rep g σ) (hv : Inv M σ) (hx : isB (σ 1) x = false) (oa : Nat) (fo : Nat → Int64) : zH (aX adK adV) l yL_obstacle wsL_obstacle { frames := 8, cells := 1, slots := 6, locals := 124 } D (zTy κ) [.ref (ra), .int (x), .ref oa] (OUTW κ oa fo ++ (SW κ Sa g ++ (RC ra (Sa 0) f9 h9 a9 b9 p9 o9))) (S := Unit) (fun _ => some (.int (nI 1))) (fun _ => True) (fun _ => OUTW κ oa fo ++ (SW κ Sa g ++ (RC ra (Sa 0) f9 h9 a9 b9 p9 o9))) 1 6 := by
  refine zH_of (cc := cL_obstacle) (maxL := 4) (rt := some .int) (hh := [(0, 9, 12, 19)]) [(0, .ref (ra)), (1, .int (x)), (2, .ref (oa))] (by decide +kernel) rfl (Nat.le_of_ble_eq_true rfl) rfl ?_
  intro p e s m args below meth c A C hr9 hk htab hX
  have C : zC p s m args c cL_obstacle 4 wsL_obstacle RL D (zTy κ) A := C
  refine z_aload_n C dL_obstacle_0 2 rfl ?_
  refine z_iconst (v := nI 0) C dL_obstacle_1 (by decide) ?_
  refine z_aload_n C dL_obstacle_2 0 rfl ?_
  refine z_iload_n C dL_obstacle_3 1 rfl ?_
  refine zx_catchV C (aX_ok adK adV) hX (mX5_obstacle_no l D κ adK adV Sa g ra f9 h9 a9 b9 p9 o9 σ M x hls hr hv hx) gL_obstacle_X5_obstacle rfl rfl rfl hdX5_obstacle ⟨(Nat.le_of_ble_eq_true rfl), (Nat.le_of_ble_eq_true rfl)⟩ 13 rfl rfl (OUTW κ oa fo) (fun _ => OUTW κ oa fo ++ (SW κ Sa g ++ (RC ra (Sa 0) f9 h9 a9 b9 p9 o9))) List.perm_append_comm (fun _ => List.perm_append_comm) rfl (Nat.le_of_ble_eq_true rfl) dL_obstacle_4 ⟨(Nat.le_of_ble_eq_true rfl), (Nat.le_of_ble_eq_true rfl)⟩ [] ⟨0, 9, 12, 19⟩ [] htab (fun z hz => absurd hz List.not_mem_nil) (by decide) (by decide) (name := eIB) (show Cond.classLink RL 19 eIB ∈ wsL_obstacle from by decide +kernel) (hX.2.2.1 _ (by simp [nCs])) (fun u q hu => ?_)
  refine z_astore_n C [(3, .ref (q)), (0, .ref (ra)), (1, .int (x)), (2, .ref (oa))] dL_obstacle_12 (by decide) rfl ?_
  refine z_iconst (v := nI 1) C dL_obstacle_13 (by decide) ?_
  exact zh_iret C hr9 hk u rfl hu (List.Perm.of_eq rfl) dL_obstacle_14 (Nat.le_of_ble_eq_true rfl) (Nat.le_of_ble_eq_true rfl)
set_option maxRecDepth 100000 in
set_option maxHeartbeats 4000000 in
theorem mL_blockOf_ok (l : Launch) (D : va_G) (κ : Nat → ClassId) (Sa : Nat → Nat) (g : Nat → Nat → Nat) (ra f9 h9 a9 b9 p9 o9 : Nat) (σ : Nat → Nat) (M : Nat) (b : Nat) (hr : Rep g σ) (hv : Inv M σ) (hb : b < σ 2) (adK adV : Nat → Nat) (oa : Nat) (fo : Nat → Int64) : zH (aX adK adV) l yL_blockOf wsL_blockOf { frames := 2, cells := 0, slots := 0, locals := 42 } D (zTy κ) [.ref ra, .int (nI b), .ref oa] (OUTW κ oa fo ++ (SW κ Sa g ++ (RC ra (Sa 0) f9 h9 a9 b9 p9 o9))) (S := Unit) (fun _ => some (.int (nI 0))) (fun _ => True) (fun _ => OUTW κ oa (vp_updL fo 0 (((nI (σ (65 + 5 * b + 2)))).toInt64)) ++ (SW κ Sa g ++ (RC ra (Sa 0) f9 h9 a9 b9 p9 o9))) 0 0 := by
  refine zH_of (cc := cL_blockOf) (maxL := 4) (rt := some .int) (hh := [(0, 9, 12, 19)]) [(0, .ref (ra)), (1, .int (nI b)), (2, .ref (oa))] (by decide +kernel) rfl (Nat.le_of_ble_eq_true rfl) rfl ?_
  intro p e s m args below meth c A C hr9 hk htab hX
  have C : zC p s m args c cL_blockOf 4 wsL_blockOf RL D (zTy κ) A := C
  refine z_aload_n C dL_blockOf_0 2 rfl ?_
  refine z_iconst (v := nI 0) C dL_blockOf_1 (by decide) ?_
  refine z_aload_n C dL_blockOf_2 0 rfl ?_
  refine z_iload_n C dL_blockOf_3 1 rfl ?_
  refine z_callV C (mX5_blockOf_ok l D κ Sa g ra f9 h9 a9 b9 p9 o9 σ M b hr hv hb) gL_blockOf_X5_blockOf rfl rfl rfl hdX5_blockOf ⟨(Nat.le_of_ble_eq_true rfl), (Nat.le_of_ble_eq_true rfl)⟩ 13 rfl rfl (OUTW κ oa fo) (fun _ => OUTW κ oa fo ++ (SW κ Sa g ++ (RC ra (Sa 0) f9 h9 a9 b9 p9 o9))) List.perm_append_comm (fun _ => List.perm_append_comm) rfl (Nat.le_of_ble_eq_true rfl) dL_blockOf_4 ⟨(Nat.le_of_ble_eq_true rfl), (Nat.le_of_ble_eq_true rfl)⟩ (fun u hu => ?_)
  refine z_i2l C dL_blockOf_7 rfl ?_
  refine z_last C 0 4 rfl rfl (i := 0) (by decide) (by decide) dL_blockOf_8 (OUTW κ oa (vp_updL fo 0 (((nI (σ (65 + 5 * b + 2)))).toInt64)) ++ (SW κ Sa g ++ (RC ra (Sa 0) f9 h9 a9 b9 p9 o9))) rfl ?_
  refine z_goto (tgt := 15) C dL_blockOf_9 (by decide) ?_
  refine z_iconst (v := nI 0) C dL_blockOf_15 (by decide) ?_
  exact zh_iret C hr9 hk u rfl hu (List.Perm.of_eq rfl) dL_blockOf_16 (Nat.le_of_ble_eq_true rfl) (Nat.le_of_ble_eq_true rfl)
theorem hdL_blockOf : yL_blockOf.cls ≠ "java/lang/invoke/MethodHandle" ∧ yL_blockOf.cls ≠ "java/lang/invoke/VarHandle" ∧ (parseMethodDescriptor yL_blockOf.desc).map (fun d => d.parameters.length) = some 3 := by decide +kernel
set_option maxRecDepth 100000 in
set_option maxHeartbeats 4000000 in
theorem mL_blockOf_no (l : Launch) (D : va_G) (κ : Nat → ClassId) (adK adV : Nat → Nat) (Sa : Nat → Nat) (g : Nat → Nat → Nat) (ra f9 h9 a9 b9 p9 o9 : Nat) (σ : Nat → Nat) (M : Nat) (x : Int32) (hls : l.stackTraces = false) (hr : Rep g σ) (hv : Inv M σ) (hx : isB (σ 2) x = false) (oa : Nat) (fo : Nat → Int64) : zH (aX adK adV) l yL_blockOf wsL_blockOf { frames := 8, cells := 1, slots := 6, locals := 124 } D (zTy κ) [.ref (ra), .int (x), .ref oa] (OUTW κ oa fo ++ (SW κ Sa g ++ (RC ra (Sa 0) f9 h9 a9 b9 p9 o9))) (S := Unit) (fun _ => some (.int (nI 1))) (fun _ => True) (fun _ => OUTW κ oa fo ++ (SW κ Sa g ++ (RC ra (Sa 0) f9 h9 a9 b9 p9 o9))) 1 6 := by
  refine zH_of (cc := cL_blockOf) (maxL := 4) (rt := some .int) (hh := [(0, 9, 12, 19)]) [(0, .ref (ra)), (1, .int (x)), (2, .ref (oa))] (by decide +kernel) rfl (Nat.le_of_ble_eq_true rfl) rfl ?_
  intro p e s m args below meth c A C hr9 hk htab hX
  have C : zC p s m args c cL_blockOf 4 wsL_blockOf RL D (zTy κ) A := C
  refine z_aload_n C dL_blockOf_0 2 rfl ?_
  refine z_iconst (v := nI 0) C dL_blockOf_1 (by decide) ?_
  refine z_aload_n C dL_blockOf_2 0 rfl ?_
  refine z_iload_n C dL_blockOf_3 1 rfl ?_
  refine zx_catchV C (aX_ok adK adV) hX (mX5_blockOf_no l D κ adK adV Sa g ra f9 h9 a9 b9 p9 o9 σ M x hls hr hv hx) gL_blockOf_X5_blockOf rfl rfl rfl hdX5_blockOf ⟨(Nat.le_of_ble_eq_true rfl), (Nat.le_of_ble_eq_true rfl)⟩ 13 rfl rfl (OUTW κ oa fo) (fun _ => OUTW κ oa fo ++ (SW κ Sa g ++ (RC ra (Sa 0) f9 h9 a9 b9 p9 o9))) List.perm_append_comm (fun _ => List.perm_append_comm) rfl (Nat.le_of_ble_eq_true rfl) dL_blockOf_4 ⟨(Nat.le_of_ble_eq_true rfl), (Nat.le_of_ble_eq_true rfl)⟩ [] ⟨0, 9, 12, 19⟩ [] htab (fun z hz => absurd hz List.not_mem_nil) (by decide) (by decide) (name := eIB) (show Cond.classLink RL 19 eIB ∈ wsL_blockOf from by decide +kernel) (hX.2.2.1 _ (by simp [nCs])) (fun u q hu => ?_)
  refine z_astore_n C [(3, .ref (q)), (0, .ref (ra)), (1, .int (x)), (2, .ref (oa))] dL_blockOf_12 (by decide) rfl ?_
  refine z_iconst (v := nI 1) C dL_blockOf_13 (by decide) ?_
  exact zh_iret C hr9 hk u rfl hu (List.Perm.of_eq rfl) dL_blockOf_14 (Nat.le_of_ble_eq_true rfl) (Nat.le_of_ble_eq_true rfl)
set_option maxRecDepth 100000 in
set_option maxHeartbeats 4000000 in
theorem mL_positionOf_ok (l : Launch) (D : va_G) (κ : Nat → ClassId) (Sa : Nat → Nat) (g : Nat → Nat → Nat) (ra f9 h9 a9 b9 p9 o9 : Nat) (σ : Nat → Nat) (M : Nat) (b : Nat) (hr : Rep g σ) (hv : Inv M σ) (hb : b < σ 2) (adK adV : Nat → Nat) (oa : Nat) (fo : Nat → Int64) : zH (aX adK adV) l yL_positionOf wsL_positionOf { frames := 2, cells := 0, slots := 0, locals := 42 } D (zTy κ) [.ref ra, .int (nI b), .ref oa] (OUTW κ oa fo ++ (SW κ Sa g ++ (RC ra (Sa 0) f9 h9 a9 b9 p9 o9))) (S := Unit) (fun _ => some (.int (nI 0))) (fun _ => True) (fun _ => OUTW κ oa (vp_updL fo 0 (((nI (σ (65 + 5 * b + 3)))).toInt64)) ++ (SW κ Sa g ++ (RC ra (Sa 0) f9 h9 a9 b9 p9 o9))) 0 0 := by
  refine zH_of (cc := cL_positionOf) (maxL := 4) (rt := some .int) (hh := [(0, 9, 12, 19)]) [(0, .ref (ra)), (1, .int (nI b)), (2, .ref (oa))] (by decide +kernel) rfl (Nat.le_of_ble_eq_true rfl) rfl ?_
  intro p e s m args below meth c A C hr9 hk htab hX
  have C : zC p s m args c cL_positionOf 4 wsL_positionOf RL D (zTy κ) A := C
  refine z_aload_n C dL_positionOf_0 2 rfl ?_
  refine z_iconst (v := nI 0) C dL_positionOf_1 (by decide) ?_
  refine z_aload_n C dL_positionOf_2 0 rfl ?_
  refine z_iload_n C dL_positionOf_3 1 rfl ?_
  refine z_callV C (mX5_positionOf_ok l D κ Sa g ra f9 h9 a9 b9 p9 o9 σ M b hr hv hb) gL_positionOf_X5_positionOf rfl rfl rfl hdX5_positionOf ⟨(Nat.le_of_ble_eq_true rfl), (Nat.le_of_ble_eq_true rfl)⟩ 13 rfl rfl (OUTW κ oa fo) (fun _ => OUTW κ oa fo ++ (SW κ Sa g ++ (RC ra (Sa 0) f9 h9 a9 b9 p9 o9))) List.perm_append_comm (fun _ => List.perm_append_comm) rfl (Nat.le_of_ble_eq_true rfl) dL_positionOf_4 ⟨(Nat.le_of_ble_eq_true rfl), (Nat.le_of_ble_eq_true rfl)⟩ (fun u hu => ?_)
  refine z_i2l C dL_positionOf_7 rfl ?_
  refine z_last C 0 4 rfl rfl (i := 0) (by decide) (by decide) dL_positionOf_8 (OUTW κ oa (vp_updL fo 0 (((nI (σ (65 + 5 * b + 3)))).toInt64)) ++ (SW κ Sa g ++ (RC ra (Sa 0) f9 h9 a9 b9 p9 o9))) rfl ?_
  refine z_goto (tgt := 15) C dL_positionOf_9 (by decide) ?_
  refine z_iconst (v := nI 0) C dL_positionOf_15 (by decide) ?_
  exact zh_iret C hr9 hk u rfl hu (List.Perm.of_eq rfl) dL_positionOf_16 (Nat.le_of_ble_eq_true rfl) (Nat.le_of_ble_eq_true rfl)
theorem hdL_positionOf : yL_positionOf.cls ≠ "java/lang/invoke/MethodHandle" ∧ yL_positionOf.cls ≠ "java/lang/invoke/VarHandle" ∧ (parseMethodDescriptor yL_positionOf.desc).map (fun d => d.parameters.length) = some 3 := by decide +kernel
set_option maxRecDepth 100000 in
set_option maxHeartbeats 4000000 in
theorem mL_positionOf_no (l : Launch) (D : va_G) (κ : Nat → ClassId) (adK adV : Nat → Nat) (Sa : Nat → Nat) (g : Nat → Nat → Nat) (ra f9 h9 a9 b9 p9 o9 : Nat) (σ : Nat → Nat) (M : Nat) (x : Int32) (hls : l.stackTraces = false) (hr : Rep g σ) (hv : Inv M σ) (hx : isB (σ 2) x = false) (oa : Nat) (fo : Nat → Int64) : zH (aX adK adV) l yL_positionOf wsL_positionOf { frames := 8, cells := 1, slots := 6, locals := 124 } D (zTy κ) [.ref (ra), .int (x), .ref oa] (OUTW κ oa fo ++ (SW κ Sa g ++ (RC ra (Sa 0) f9 h9 a9 b9 p9 o9))) (S := Unit) (fun _ => some (.int (nI 1))) (fun _ => True) (fun _ => OUTW κ oa fo ++ (SW κ Sa g ++ (RC ra (Sa 0) f9 h9 a9 b9 p9 o9))) 1 6 := by
  refine zH_of (cc := cL_positionOf) (maxL := 4) (rt := some .int) (hh := [(0, 9, 12, 19)]) [(0, .ref (ra)), (1, .int (x)), (2, .ref (oa))] (by decide +kernel) rfl (Nat.le_of_ble_eq_true rfl) rfl ?_
  intro p e s m args below meth c A C hr9 hk htab hX
  have C : zC p s m args c cL_positionOf 4 wsL_positionOf RL D (zTy κ) A := C
  refine z_aload_n C dL_positionOf_0 2 rfl ?_
  refine z_iconst (v := nI 0) C dL_positionOf_1 (by decide) ?_
  refine z_aload_n C dL_positionOf_2 0 rfl ?_
  refine z_iload_n C dL_positionOf_3 1 rfl ?_
  refine zx_catchV C (aX_ok adK adV) hX (mX5_positionOf_no l D κ adK adV Sa g ra f9 h9 a9 b9 p9 o9 σ M x hls hr hv hx) gL_positionOf_X5_positionOf rfl rfl rfl hdX5_positionOf ⟨(Nat.le_of_ble_eq_true rfl), (Nat.le_of_ble_eq_true rfl)⟩ 13 rfl rfl (OUTW κ oa fo) (fun _ => OUTW κ oa fo ++ (SW κ Sa g ++ (RC ra (Sa 0) f9 h9 a9 b9 p9 o9))) List.perm_append_comm (fun _ => List.perm_append_comm) rfl (Nat.le_of_ble_eq_true rfl) dL_positionOf_4 ⟨(Nat.le_of_ble_eq_true rfl), (Nat.le_of_ble_eq_true rfl)⟩ [] ⟨0, 9, 12, 19⟩ [] htab (fun z hz => absurd hz List.not_mem_nil) (by decide) (by decide) (name := eIB) (show Cond.classLink RL 19 eIB ∈ wsL_positionOf from by decide +kernel) (hX.2.2.1 _ (by simp [nCs])) (fun u q hu => ?_)
  refine z_astore_n C [(3, .ref (q)), (0, .ref (ra)), (1, .int (x)), (2, .ref (oa))] dL_positionOf_12 (by decide) rfl ?_
  refine z_iconst (v := nI 1) C dL_positionOf_13 (by decide) ?_
  exact zh_iret C hr9 hk u rfl hu (List.Perm.of_eq rfl) dL_positionOf_14 (Nat.le_of_ble_eq_true rfl) (Nat.le_of_ble_eq_true rfl)
set_option maxRecDepth 100000 in
set_option maxHeartbeats 4000000 in
theorem mL_wagonsOf_ok (l : Launch) (D : va_G) (κ : Nat → ClassId) (Sa : Nat → Nat) (g : Nat → Nat → Nat) (ra f9 h9 a9 b9 p9 o9 : Nat) (σ : Nat → Nat) (M : Nat) (b : Nat) (hr : Rep g σ) (hv : Inv M σ) (hb : b < σ 2) (adK adV : Nat → Nat) (oa : Nat) (fo : Nat → Int64) : zH (aX adK adV) l yL_wagonsOf wsL_wagonsOf { frames := 2, cells := 0, slots := 0, locals := 42 } D (zTy κ) [.ref ra, .int (nI b), .ref oa] (OUTW κ oa fo ++ (SW κ Sa g ++ (RC ra (Sa 0) f9 h9 a9 b9 p9 o9))) (S := Unit) (fun _ => some (.int (nI 0))) (fun _ => True) (fun _ => OUTW κ oa (vp_updL fo 0 (((nI (σ (65 + 5 * b + 0)))).toInt64)) ++ (SW κ Sa g ++ (RC ra (Sa 0) f9 h9 a9 b9 p9 o9))) 0 0 := by
  refine zH_of (cc := cL_wagonsOf) (maxL := 4) (rt := some .int) (hh := [(0, 9, 12, 19)]) [(0, .ref (ra)), (1, .int (nI b)), (2, .ref (oa))] (by decide +kernel) rfl (Nat.le_of_ble_eq_true rfl) rfl ?_
  intro p e s m args below meth c A C hr9 hk htab hX
  have C : zC p s m args c cL_wagonsOf 4 wsL_wagonsOf RL D (zTy κ) A := C
  refine z_aload_n C dL_wagonsOf_0 2 rfl ?_
  refine z_iconst (v := nI 0) C dL_wagonsOf_1 (by decide) ?_
  refine z_aload_n C dL_wagonsOf_2 0 rfl ?_
  refine z_iload_n C dL_wagonsOf_3 1 rfl ?_
  refine z_callV C (mX5_wagonsOf_ok l D κ Sa g ra f9 h9 a9 b9 p9 o9 σ M b hr hv hb) gL_wagonsOf_X5_wagonsOf rfl rfl rfl hdX5_wagonsOf ⟨(Nat.le_of_ble_eq_true rfl), (Nat.le_of_ble_eq_true rfl)⟩ 13 rfl rfl (OUTW κ oa fo) (fun _ => OUTW κ oa fo ++ (SW κ Sa g ++ (RC ra (Sa 0) f9 h9 a9 b9 p9 o9))) List.perm_append_comm (fun _ => List.perm_append_comm) rfl (Nat.le_of_ble_eq_true rfl) dL_wagonsOf_4 ⟨(Nat.le_of_ble_eq_true rfl), (Nat.le_of_ble_eq_true rfl)⟩ (fun u hu => ?_)
  refine z_i2l C dL_wagonsOf_7 rfl ?_
  refine z_last C 0 4 rfl rfl (i := 0) (by decide) (by decide) dL_wagonsOf_8 (OUTW κ oa (vp_updL fo 0 (((nI (σ (65 + 5 * b + 0)))).toInt64)) ++ (SW κ Sa g ++ (RC ra (Sa 0) f9 h9 a9 b9 p9 o9))) rfl ?_
  refine z_goto (tgt := 15) C dL_wagonsOf_9 (by decide) ?_
  refine z_iconst (v := nI 0) C dL_wagonsOf_15 (by decide) ?_
  exact zh_iret C hr9 hk u rfl hu (List.Perm.of_eq rfl) dL_wagonsOf_16 (Nat.le_of_ble_eq_true rfl) (Nat.le_of_ble_eq_true rfl)
theorem hdL_wagonsOf : yL_wagonsOf.cls ≠ "java/lang/invoke/MethodHandle" ∧ yL_wagonsOf.cls ≠ "java/lang/invoke/VarHandle" ∧ (parseMethodDescriptor yL_wagonsOf.desc).map (fun d => d.parameters.length) = some 3 := by decide +kernel
set_option maxRecDepth 100000 in
set_option maxHeartbeats 4000000 in
theorem mL_wagonsOf_no (l : Launch) (D : va_G) (κ : Nat → ClassId) (adK adV : Nat → Nat) (Sa : Nat → Nat) (g : Nat → Nat → Nat) (ra f9 h9 a9 b9 p9 o9 : Nat) (σ : Nat → Nat) (M : Nat) (x : Int32) (hls : l.stackTraces = false) (hr : Rep g σ) (hv : Inv M σ) (hx : isB (σ 2) x = false) (oa : Nat) (fo : Nat → Int64) : zH (aX adK adV) l yL_wagonsOf wsL_wagonsOf { frames := 8, cells := 1, slots := 6, locals := 124 } D (zTy κ) [.ref (ra), .int (x), .ref oa] (OUTW κ oa fo ++ (SW κ Sa g ++ (RC ra (Sa 0) f9 h9 a9 b9 p9 o9))) (S := Unit) (fun _ => some (.int (nI 1))) (fun _ => True) (fun _ => OUTW κ oa fo ++ (SW κ Sa g ++ (RC ra (Sa 0) f9 h9 a9 b9 p9 o9))) 1 6 := by
  refine zH_of (cc := cL_wagonsOf) (maxL := 4) (rt := some .int) (hh := [(0, 9, 12, 19)]) [(0, .ref (ra)), (1, .int (x)), (2, .ref (oa))] (by decide +kernel) rfl (Nat.le_of_ble_eq_true rfl) rfl ?_
  intro p e s m args below meth c A C hr9 hk htab hX
  have C : zC p s m args c cL_wagonsOf 4 wsL_wagonsOf RL D (zTy κ) A := C
  refine z_aload_n C dL_wagonsOf_0 2 rfl ?_
  refine z_iconst (v := nI 0) C dL_wagonsOf_1 (by decide) ?_
  refine z_aload_n C dL_wagonsOf_2 0 rfl ?_
  refine z_iload_n C dL_wagonsOf_3 1 rfl ?_
  refine zx_catchV C (aX_ok adK adV) hX (mX5_wagonsOf_no l D κ adK adV Sa g ra f9 h9 a9 b9 p9 o9 σ M x hls hr hv hx) gL_wagonsOf_X5_wagonsOf rfl rfl rfl hdX5_wagonsOf ⟨(Nat.le_of_ble_eq_true rfl), (Nat.le_of_ble_eq_true rfl)⟩ 13 rfl rfl (OUTW κ oa fo) (fun _ => OUTW κ oa fo ++ (SW κ Sa g ++ (RC ra (Sa 0) f9 h9 a9 b9 p9 o9))) List.perm_append_comm (fun _ => List.perm_append_comm) rfl (Nat.le_of_ble_eq_true rfl) dL_wagonsOf_4 ⟨(Nat.le_of_ble_eq_true rfl), (Nat.le_of_ble_eq_true rfl)⟩ [] ⟨0, 9, 12, 19⟩ [] htab (fun z hz => absurd hz List.not_mem_nil) (by decide) (by decide) (name := eIB) (show Cond.classLink RL 19 eIB ∈ wsL_wagonsOf from by decide +kernel) (hX.2.2.1 _ (by simp [nCs])) (fun u q hu => ?_)
  refine z_astore_n C [(3, .ref (q)), (0, .ref (ra)), (1, .int (x)), (2, .ref (oa))] dL_wagonsOf_12 (by decide) rfl ?_
  refine z_iconst (v := nI 1) C dL_wagonsOf_13 (by decide) ?_
  exact zh_iret C hr9 hk u rfl hu (List.Perm.of_eq rfl) dL_wagonsOf_14 (Nat.le_of_ble_eq_true rfl) (Nat.le_of_ble_eq_true rfl)
set_option maxRecDepth 100000 in
set_option maxHeartbeats 4000000 in
theorem mL_topSpeedOf_ok (l : Launch) (D : va_G) (κ : Nat → ClassId) (Sa : Nat → Nat) (g : Nat → Nat → Nat) (ra f9 h9 a9 b9 p9 o9 : Nat) (σ : Nat → Nat) (M : Nat) (b : Nat) (hr : Rep g σ) (hv : Inv M σ) (hb : b < σ 2) (adK adV : Nat → Nat) (oa : Nat) (fo : Nat → Int64) : zH (aX adK adV) l yL_topSpeedOf wsL_topSpeedOf { frames := 2, cells := 0, slots := 0, locals := 42 } D (zTy κ) [.ref ra, .int (nI b), .ref oa] (OUTW κ oa fo ++ (SW κ Sa g ++ (RC ra (Sa 0) f9 h9 a9 b9 p9 o9))) (S := Unit) (fun _ => some (.int (nI 0))) (fun _ => True) (fun _ => OUTW κ oa (vp_updL fo 0 (((nI (σ (65 + 5 * b + 1)))).toInt64)) ++ (SW κ Sa g ++ (RC ra (Sa 0) f9 h9 a9 b9 p9 o9))) 0 0 := by
  refine zH_of (cc := cL_topSpeedOf) (maxL := 4) (rt := some .int) (hh := [(0, 9, 12, 19)]) [(0, .ref (ra)), (1, .int (nI b)), (2, .ref (oa))] (by decide +kernel) rfl (Nat.le_of_ble_eq_true rfl) rfl ?_
  intro p e s m args below meth c A C hr9 hk htab hX
  have C : zC p s m args c cL_topSpeedOf 4 wsL_topSpeedOf RL D (zTy κ) A := C
  refine z_aload_n C dL_topSpeedOf_0 2 rfl ?_
  refine z_iconst (v := nI 0) C dL_topSpeedOf_1 (by decide) ?_
  refine z_aload_n C dL_topSpeedOf_2 0 rfl ?_
  refine z_iload_n C dL_topSpeedOf_3 1 rfl ?_
  refine z_callV C (mX5_topSpeedOf_ok l D κ Sa g ra f9 h9 a9 b9 p9 o9 σ M b hr hv hb) gL_topSpeedOf_X5_topSpeedOf rfl rfl rfl hdX5_topSpeedOf ⟨(Nat.le_of_ble_eq_true rfl), (Nat.le_of_ble_eq_true rfl)⟩ 13 rfl rfl (OUTW κ oa fo) (fun _ => OUTW κ oa fo ++ (SW κ Sa g ++ (RC ra (Sa 0) f9 h9 a9 b9 p9 o9))) List.perm_append_comm (fun _ => List.perm_append_comm) rfl (Nat.le_of_ble_eq_true rfl) dL_topSpeedOf_4 ⟨(Nat.le_of_ble_eq_true rfl), (Nat.le_of_ble_eq_true rfl)⟩ (fun u hu => ?_)
  refine z_i2l C dL_topSpeedOf_7 rfl ?_
  refine z_last C 0 4 rfl rfl (i := 0) (by decide) (by decide) dL_topSpeedOf_8 (OUTW κ oa (vp_updL fo 0 (((nI (σ (65 + 5 * b + 1)))).toInt64)) ++ (SW κ Sa g ++ (RC ra (Sa 0) f9 h9 a9 b9 p9 o9))) rfl ?_
  refine z_goto (tgt := 15) C dL_topSpeedOf_9 (by decide) ?_
  refine z_iconst (v := nI 0) C dL_topSpeedOf_15 (by decide) ?_
  exact zh_iret C hr9 hk u rfl hu (List.Perm.of_eq rfl) dL_topSpeedOf_16 (Nat.le_of_ble_eq_true rfl) (Nat.le_of_ble_eq_true rfl)
theorem hdL_topSpeedOf : yL_topSpeedOf.cls ≠ "java/lang/invoke/MethodHandle" ∧ yL_topSpeedOf.cls ≠ "java/lang/invoke/VarHandle" ∧ (parseMethodDescriptor yL_topSpeedOf.desc).map (fun d => d.parameters.length) = some 3 := by decide +kernel
set_option maxRecDepth 100000 in
set_option maxHeartbeats 4000000 in
theorem mL_topSpeedOf_no (l : Launch) (D : va_G) (κ : Nat → ClassId) (adK adV : Nat → Nat) (Sa : Nat → Nat) (g : Nat → Nat → Nat) (ra f9 h9 a9 b9 p9 o9 : Nat) (σ : Nat → Nat) (M : Nat) (x : Int32) (hls : l.stackTraces = false) (hr : Rep g σ) (hv : Inv M σ) (hx : isB (σ 2) x = false) (oa : Nat) (fo : Nat → Int64) : zH (aX adK adV) l yL_topSpeedOf wsL_topSpeedOf { frames := 8, cells := 1, slots := 6, locals := 124 } D (zTy κ) [.ref (ra), .int (x), .ref oa] (OUTW κ oa fo ++ (SW κ Sa g ++ (RC ra (Sa 0) f9 h9 a9 b9 p9 o9))) (S := Unit) (fun _ => some (.int (nI 1))) (fun _ => True) (fun _ => OUTW κ oa fo ++ (SW κ Sa g ++ (RC ra (Sa 0) f9 h9 a9 b9 p9 o9))) 1 6 := by
  refine zH_of (cc := cL_topSpeedOf) (maxL := 4) (rt := some .int) (hh := [(0, 9, 12, 19)]) [(0, .ref (ra)), (1, .int (x)), (2, .ref (oa))] (by decide +kernel) rfl (Nat.le_of_ble_eq_true rfl) rfl ?_
  intro p e s m args below meth c A C hr9 hk htab hX
  have C : zC p s m args c cL_topSpeedOf 4 wsL_topSpeedOf RL D (zTy κ) A := C
  refine z_aload_n C dL_topSpeedOf_0 2 rfl ?_
  refine z_iconst (v := nI 0) C dL_topSpeedOf_1 (by decide) ?_
  refine z_aload_n C dL_topSpeedOf_2 0 rfl ?_
  refine z_iload_n C dL_topSpeedOf_3 1 rfl ?_
  refine zx_catchV C (aX_ok adK adV) hX (mX5_topSpeedOf_no l D κ adK adV Sa g ra f9 h9 a9 b9 p9 o9 σ M x hls hr hv hx) gL_topSpeedOf_X5_topSpeedOf rfl rfl rfl hdX5_topSpeedOf ⟨(Nat.le_of_ble_eq_true rfl), (Nat.le_of_ble_eq_true rfl)⟩ 13 rfl rfl (OUTW κ oa fo) (fun _ => OUTW κ oa fo ++ (SW κ Sa g ++ (RC ra (Sa 0) f9 h9 a9 b9 p9 o9))) List.perm_append_comm (fun _ => List.perm_append_comm) rfl (Nat.le_of_ble_eq_true rfl) dL_topSpeedOf_4 ⟨(Nat.le_of_ble_eq_true rfl), (Nat.le_of_ble_eq_true rfl)⟩ [] ⟨0, 9, 12, 19⟩ [] htab (fun z hz => absurd hz List.not_mem_nil) (by decide) (by decide) (name := eIB) (show Cond.classLink RL 19 eIB ∈ wsL_topSpeedOf from by decide +kernel) (hX.2.2.1 _ (by simp [nCs])) (fun u q hu => ?_)
  refine z_astore_n C [(3, .ref (q)), (0, .ref (ra)), (1, .int (x)), (2, .ref (oa))] dL_topSpeedOf_12 (by decide) rfl ?_
  refine z_iconst (v := nI 1) C dL_topSpeedOf_13 (by decide) ?_
  exact zh_iret C hr9 hk u rfl hu (List.Perm.of_eq rfl) dL_topSpeedOf_14 (Nat.le_of_ble_eq_true rfl) (Nat.le_of_ble_eq_true rfl)
set_option maxRecDepth 100000 in
set_option maxHeartbeats 4000000 in
theorem mL_speedOf_ok (l : Launch) (D : va_G) (κ : Nat → ClassId) (Sa : Nat → Nat) (g : Nat → Nat → Nat) (ra f9 h9 a9 b9 p9 o9 : Nat) (σ : Nat → Nat) (M : Nat) (b : Nat) (hr : Rep g σ) (hv : Inv M σ) (hb : b < σ 2) (adK adV : Nat → Nat) (oa : Nat) (fo : Nat → Int64) : zH (aX adK adV) l yL_speedOf wsL_speedOf { frames := 3, cells := 0, slots := 0, locals := 63 } D (zTy κ) [.ref ra, .int (nI b), .ref oa] (OUTW κ oa fo ++ (SW κ Sa g ++ (RC ra (Sa 0) f9 h9 a9 b9 p9 o9))) (S := Unit) (fun _ => some (.int (nI 0))) (fun _ => True) (fun _ => OUTW κ oa (vp_updL fo 0 (((nI (spd σ b))).toInt64)) ++ (SW κ Sa g ++ (RC ra (Sa 0) f9 h9 a9 b9 p9 o9))) 0 0 := by
  refine zH_of (cc := cL_speedOf) (maxL := 4) (rt := some .int) (hh := [(0, 9, 12, 19)]) [(0, .ref (ra)), (1, .int (nI b)), (2, .ref (oa))] (by decide +kernel) rfl (Nat.le_of_ble_eq_true rfl) rfl ?_
  intro p e s m args below meth c A C hr9 hk htab hX
  have C : zC p s m args c cL_speedOf 4 wsL_speedOf RL D (zTy κ) A := C
  refine z_aload_n C dL_speedOf_0 2 rfl ?_
  refine z_iconst (v := nI 0) C dL_speedOf_1 (by decide) ?_
  refine z_aload_n C dL_speedOf_2 0 rfl ?_
  refine z_iload_n C dL_speedOf_3 1 rfl ?_
  refine z_callV C (mX5_speedOf_ok l D κ Sa g ra f9 h9 a9 b9 p9 o9 σ M b hr hv hb) gL_speedOf_X5_speedOf rfl rfl rfl hdX5_speedOf ⟨(Nat.le_of_ble_eq_true rfl), (Nat.le_of_ble_eq_true rfl)⟩ 13 rfl rfl (OUTW κ oa fo) (fun _ => OUTW κ oa fo ++ (SW κ Sa g ++ (RC ra (Sa 0) f9 h9 a9 b9 p9 o9))) List.perm_append_comm (fun _ => List.perm_append_comm) rfl (Nat.le_of_ble_eq_true rfl) dL_speedOf_4 ⟨(Nat.le_of_ble_eq_true rfl), (Nat.le_of_ble_eq_true rfl)⟩ (fun u hu => ?_)
  refine z_i2l C dL_speedOf_7 rfl ?_
  refine z_last C 0 4 rfl rfl (i := 0) (by decide) (by decide) dL_speedOf_8 (OUTW κ oa (vp_updL fo 0 (((nI (spd σ b))).toInt64)) ++ (SW κ Sa g ++ (RC ra (Sa 0) f9 h9 a9 b9 p9 o9))) rfl ?_
  refine z_goto (tgt := 15) C dL_speedOf_9 (by decide) ?_
  refine z_iconst (v := nI 0) C dL_speedOf_15 (by decide) ?_
  exact zh_iret C hr9 hk u rfl hu (List.Perm.of_eq rfl) dL_speedOf_16 (Nat.le_of_ble_eq_true rfl) (Nat.le_of_ble_eq_true rfl)
theorem hdL_speedOf : yL_speedOf.cls ≠ "java/lang/invoke/MethodHandle" ∧ yL_speedOf.cls ≠ "java/lang/invoke/VarHandle" ∧ (parseMethodDescriptor yL_speedOf.desc).map (fun d => d.parameters.length) = some 3 := by decide +kernel
set_option maxRecDepth 100000 in
set_option maxHeartbeats 4000000 in
theorem mL_speedOf_no (l : Launch) (D : va_G) (κ : Nat → ClassId) (adK adV : Nat → Nat) (Sa : Nat → Nat) (g : Nat → Nat → Nat) (ra f9 h9 a9 b9 p9 o9 : Nat) (σ : Nat → Nat) (M : Nat) (x : Int32) (hls : l.stackTraces = false) (hr : Rep g σ) (hv : Inv M σ) (hx : isB (σ 2) x = false) (oa : Nat) (fo : Nat → Int64) : zH (aX adK adV) l yL_speedOf wsL_speedOf { frames := 8, cells := 1, slots := 6, locals := 124 } D (zTy κ) [.ref (ra), .int (x), .ref oa] (OUTW κ oa fo ++ (SW κ Sa g ++ (RC ra (Sa 0) f9 h9 a9 b9 p9 o9))) (S := Unit) (fun _ => some (.int (nI 1))) (fun _ => True) (fun _ => OUTW κ oa fo ++ (SW κ Sa g ++ (RC ra (Sa 0) f9 h9 a9 b9 p9 o9))) 1 6 := by
  refine zH_of (cc := cL_speedOf) (maxL := 4) (rt := some .int) (hh := [(0, 9, 12, 19)]) [(0, .ref (ra)), (1, .int (x)), (2, .ref (oa))] (by decide +kernel) rfl (Nat.le_of_ble_eq_true rfl) rfl ?_
  intro p e s m args below meth c A C hr9 hk htab hX
  have C : zC p s m args c cL_speedOf 4 wsL_speedOf RL D (zTy κ) A := C
  refine z_aload_n C dL_speedOf_0 2 rfl ?_
  refine z_iconst (v := nI 0) C dL_speedOf_1 (by decide) ?_
  refine z_aload_n C dL_speedOf_2 0 rfl ?_
  refine z_iload_n C dL_speedOf_3 1 rfl ?_
  refine zx_catchV C (aX_ok adK adV) hX (mX5_speedOf_no l D κ adK adV Sa g ra f9 h9 a9 b9 p9 o9 σ M x hls hr hv hx) gL_speedOf_X5_speedOf rfl rfl rfl hdX5_speedOf ⟨(Nat.le_of_ble_eq_true rfl), (Nat.le_of_ble_eq_true rfl)⟩ 13 rfl rfl (OUTW κ oa fo) (fun _ => OUTW κ oa fo ++ (SW κ Sa g ++ (RC ra (Sa 0) f9 h9 a9 b9 p9 o9))) List.perm_append_comm (fun _ => List.perm_append_comm) rfl (Nat.le_of_ble_eq_true rfl) dL_speedOf_4 ⟨(Nat.le_of_ble_eq_true rfl), (Nat.le_of_ble_eq_true rfl)⟩ [] ⟨0, 9, 12, 19⟩ [] htab (fun z hz => absurd hz List.not_mem_nil) (by decide) (by decide) (name := eIB) (show Cond.classLink RL 19 eIB ∈ wsL_speedOf from by decide +kernel) (hX.2.2.1 _ (by simp [nCs])) (fun u q hu => ?_)
  refine z_astore_n C [(3, .ref (q)), (0, .ref (ra)), (1, .int (x)), (2, .ref (oa))] dL_speedOf_12 (by decide) rfl ?_
  refine z_iconst (v := nI 1) C dL_speedOf_13 (by decide) ?_
  exact zh_iret C hr9 hk u rfl hu (List.Perm.of_eq rfl) dL_speedOf_14 (Nat.le_of_ble_eq_true rfl) (Nat.le_of_ble_eq_true rfl)
set_option maxRecDepth 100000 in
set_option maxHeartbeats 4000000 in
theorem mL_waitsOf_ok (l : Launch) (D : va_G) (κ : Nat → ClassId) (Sa : Nat → Nat) (g : Nat → Nat → Nat) (ra f9 h9 a9 b9 p9 o9 : Nat) (σ : Nat → Nat) (M : Nat) (b : Nat) (hr : Rep g σ) (hv : Inv M σ) (hb : b < σ 2) (adK adV : Nat → Nat) (oa : Nat) (fo : Nat → Int64) : zH (aX adK adV) l yL_waitsOf wsL_waitsOf { frames := 2, cells := 0, slots := 0, locals := 42 } D (zTy κ) [.ref ra, .int (nI b), .ref oa] (OUTW κ oa fo ++ (SW κ Sa g ++ (RC ra (Sa 0) f9 h9 a9 b9 p9 o9))) (S := Unit) (fun _ => some (.int (nI 0))) (fun _ => True) (fun _ => OUTW κ oa (vp_updL fo 0 (((nI (σ (65 + 5 * b + 4)))).toInt64)) ++ (SW κ Sa g ++ (RC ra (Sa 0) f9 h9 a9 b9 p9 o9))) 0 0 := by
  refine zH_of (cc := cL_waitsOf) (maxL := 4) (rt := some .int) (hh := [(0, 9, 12, 19)]) [(0, .ref (ra)), (1, .int (nI b)), (2, .ref (oa))] (by decide +kernel) rfl (Nat.le_of_ble_eq_true rfl) rfl ?_
  intro p e s m args below meth c A C hr9 hk htab hX
  have C : zC p s m args c cL_waitsOf 4 wsL_waitsOf RL D (zTy κ) A := C
  refine z_aload_n C dL_waitsOf_0 2 rfl ?_
  refine z_iconst (v := nI 0) C dL_waitsOf_1 (by decide) ?_
  refine z_aload_n C dL_waitsOf_2 0 rfl ?_
  refine z_iload_n C dL_waitsOf_3 1 rfl ?_
  refine z_callV C (mX5_waitsOf_ok l D κ Sa g ra f9 h9 a9 b9 p9 o9 σ M b hr hv hb) gL_waitsOf_X5_waitsOf rfl rfl rfl hdX5_waitsOf ⟨(Nat.le_of_ble_eq_true rfl), (Nat.le_of_ble_eq_true rfl)⟩ 13 rfl rfl (OUTW κ oa fo) (fun _ => OUTW κ oa fo ++ (SW κ Sa g ++ (RC ra (Sa 0) f9 h9 a9 b9 p9 o9))) List.perm_append_comm (fun _ => List.perm_append_comm) rfl (Nat.le_of_ble_eq_true rfl) dL_waitsOf_4 ⟨(Nat.le_of_ble_eq_true rfl), (Nat.le_of_ble_eq_true rfl)⟩ (fun u hu => ?_)
  refine z_i2l C dL_waitsOf_7 rfl ?_
  refine z_last C 0 4 rfl rfl (i := 0) (by decide) (by decide) dL_waitsOf_8 (OUTW κ oa (vp_updL fo 0 (((nI (σ (65 + 5 * b + 4)))).toInt64)) ++ (SW κ Sa g ++ (RC ra (Sa 0) f9 h9 a9 b9 p9 o9))) rfl ?_
  refine z_goto (tgt := 15) C dL_waitsOf_9 (by decide) ?_
  refine z_iconst (v := nI 0) C dL_waitsOf_15 (by decide) ?_
  exact zh_iret C hr9 hk u rfl hu (List.Perm.of_eq rfl) dL_waitsOf_16 (Nat.le_of_ble_eq_true rfl) (Nat.le_of_ble_eq_true rfl)
theorem hdL_waitsOf : yL_waitsOf.cls ≠ "java/lang/invoke/MethodHandle" ∧ yL_waitsOf.cls ≠ "java/lang/invoke/VarHandle" ∧ (parseMethodDescriptor yL_waitsOf.desc).map (fun d => d.parameters.length) = some 3 := by decide +kernel
set_option maxRecDepth 100000 in
set_option maxHeartbeats 4000000 in
theorem mL_waitsOf_no (l : Launch) (D : va_G) (κ : Nat → ClassId) (adK adV : Nat → Nat) (Sa : Nat → Nat) (g : Nat → Nat → Nat) (ra f9 h9 a9 b9 p9 o9 : Nat) (σ : Nat → Nat) (M : Nat) (x : Int32) (hls : l.stackTraces = false) (hr : Rep g σ) (hv : Inv M σ) (hx : isB (σ 2) x = false) (oa : Nat) (fo : Nat → Int64) : zH (aX adK adV) l yL_waitsOf wsL_waitsOf { frames := 8, cells := 1, slots := 6, locals := 124 } D (zTy κ) [.ref (ra), .int (x), .ref oa] (OUTW κ oa fo ++ (SW κ Sa g ++ (RC ra (Sa 0) f9 h9 a9 b9 p9 o9))) (S := Unit) (fun _ => some (.int (nI 1))) (fun _ => True) (fun _ => OUTW κ oa fo ++ (SW κ Sa g ++ (RC ra (Sa 0) f9 h9 a9 b9 p9 o9))) 1 6 := by
  refine zH_of (cc := cL_waitsOf) (maxL := 4) (rt := some .int) (hh := [(0, 9, 12, 19)]) [(0, .ref (ra)), (1, .int (x)), (2, .ref (oa))] (by decide +kernel) rfl (Nat.le_of_ble_eq_true rfl) rfl ?_
  intro p e s m args below meth c A C hr9 hk htab hX
  have C : zC p s m args c cL_waitsOf 4 wsL_waitsOf RL D (zTy κ) A := C
  refine z_aload_n C dL_waitsOf_0 2 rfl ?_
  refine z_iconst (v := nI 0) C dL_waitsOf_1 (by decide) ?_
  refine z_aload_n C dL_waitsOf_2 0 rfl ?_
  refine z_iload_n C dL_waitsOf_3 1 rfl ?_
  refine zx_catchV C (aX_ok adK adV) hX (mX5_waitsOf_no l D κ adK adV Sa g ra f9 h9 a9 b9 p9 o9 σ M x hls hr hv hx) gL_waitsOf_X5_waitsOf rfl rfl rfl hdX5_waitsOf ⟨(Nat.le_of_ble_eq_true rfl), (Nat.le_of_ble_eq_true rfl)⟩ 13 rfl rfl (OUTW κ oa fo) (fun _ => OUTW κ oa fo ++ (SW κ Sa g ++ (RC ra (Sa 0) f9 h9 a9 b9 p9 o9))) List.perm_append_comm (fun _ => List.perm_append_comm) rfl (Nat.le_of_ble_eq_true rfl) dL_waitsOf_4 ⟨(Nat.le_of_ble_eq_true rfl), (Nat.le_of_ble_eq_true rfl)⟩ [] ⟨0, 9, 12, 19⟩ [] htab (fun z hz => absurd hz List.not_mem_nil) (by decide) (by decide) (name := eIB) (show Cond.classLink RL 19 eIB ∈ wsL_waitsOf from by decide +kernel) (hX.2.2.1 _ (by simp [nCs])) (fun u q hu => ?_)
  refine z_astore_n C [(3, .ref (q)), (0, .ref (ra)), (1, .int (x)), (2, .ref (oa))] dL_waitsOf_12 (by decide) rfl ?_
  refine z_iconst (v := nI 1) C dL_waitsOf_13 (by decide) ?_
  exact zh_iret C hr9 hk u rfl hu (List.Perm.of_eq rfl) dL_waitsOf_14 (Nat.le_of_ble_eq_true rfl) (Nat.le_of_ble_eq_true rfl)
set_option maxRecDepth 100000 in
set_option maxHeartbeats 4000000 in
theorem mL_passages_ok (l : Launch) (D : va_G) (κ : Nat → ClassId) (Sa : Nat → Nat) (g : Nat → Nat → Nat) (ra f9 h9 a9 b9 p9 o9 : Nat) (σ : Nat → Nat) (M : Nat) (b q : Nat) (hr : Rep g σ) (hv : Inv M σ) (hb : b < σ 2) (hq : q < σ 1) (adK adV : Nat → Nat) (oa : Nat) (fo : Nat → Int64) : zH (aX adK adV) l yL_passages wsL_passages { frames := 2, cells := 0, slots := 0, locals := 44 } D (zTy κ) [.ref ra, .int (nI b), .int (nI q), .ref oa] (OUTW κ oa fo ++ (SW κ Sa g ++ (RC ra (Sa 0) f9 h9 a9 b9 p9 o9))) (S := Unit) (fun _ => some (.int (nI 0))) (fun _ => True) (fun _ => OUTW κ oa (vp_updL fo 0 (((nI (σ (90 + 10 * b + q)))).toInt64)) ++ (SW κ Sa g ++ (RC ra (Sa 0) f9 h9 a9 b9 p9 o9))) 0 0 := by
  refine zH_of (cc := cL_passages) (maxL := 5) (rt := some .int) (hh := [(0, 10, 13, 19)]) [(0, .ref (ra)), (1, .int (nI b)), (2, .int (nI q)), (3, .ref (oa))] (by decide +kernel) rfl (Nat.le_of_ble_eq_true rfl) rfl ?_
  intro p e s m args below meth c A C hr9 hk htab hX
  have C : zC p s m args c cL_passages 5 wsL_passages RL D (zTy κ) A := C
  refine z_aload_n C dL_passages_0 3 rfl ?_
  refine z_iconst (v := nI 0) C dL_passages_1 (by decide) ?_
  refine z_aload_n C dL_passages_2 0 rfl ?_
  refine z_iload_n C dL_passages_3 1 rfl ?_
  refine z_iload_n C dL_passages_4 2 rfl ?_
  refine z_callV C (mX5_passages_ok l D κ Sa g ra f9 h9 a9 b9 p9 o9 σ M b q hr hv hb hq) gL_passages_X5_passages rfl rfl rfl hdX5_passages ⟨(Nat.le_of_ble_eq_true rfl), (Nat.le_of_ble_eq_true rfl)⟩ 13 rfl rfl (OUTW κ oa fo) (fun _ => OUTW κ oa fo ++ (SW κ Sa g ++ (RC ra (Sa 0) f9 h9 a9 b9 p9 o9))) List.perm_append_comm (fun _ => List.perm_append_comm) rfl (Nat.le_of_ble_eq_true rfl) dL_passages_5 ⟨(Nat.le_of_ble_eq_true rfl), (Nat.le_of_ble_eq_true rfl)⟩ (fun u hu => ?_)
  refine z_i2l C dL_passages_8 rfl ?_
  refine z_last C 0 4 rfl rfl (i := 0) (by decide) (by decide) dL_passages_9 (OUTW κ oa (vp_updL fo 0 (((nI (σ (90 + 10 * b + q)))).toInt64)) ++ (SW κ Sa g ++ (RC ra (Sa 0) f9 h9 a9 b9 p9 o9))) rfl ?_
  refine z_goto (tgt := 17) C dL_passages_10 (by decide) ?_
  refine z_iconst (v := nI 0) C dL_passages_17 (by decide) ?_
  exact zh_iret C hr9 hk u rfl hu (List.Perm.of_eq rfl) dL_passages_18 (Nat.le_of_ble_eq_true rfl) (Nat.le_of_ble_eq_true rfl)
theorem hdL_passages : yL_passages.cls ≠ "java/lang/invoke/MethodHandle" ∧ yL_passages.cls ≠ "java/lang/invoke/VarHandle" ∧ (parseMethodDescriptor yL_passages.desc).map (fun d => d.parameters.length) = some 4 := by decide +kernel
set_option maxRecDepth 100000 in
set_option maxHeartbeats 4000000 in
theorem mL_passages_no (l : Launch) (D : va_G) (κ : Nat → ClassId) (adK adV : Nat → Nat) (Sa : Nat → Nat) (g : Nat → Nat → Nat) (ra f9 h9 a9 b9 p9 o9 : Nat) (σ : Nat → Nat) (M : Nat) (x y : Int32) (hls : l.stackTraces = false) (hr : Rep g σ) (hv : Inv M σ) (hx : isB (σ 2) x = false) (oa : Nat) (fo : Nat → Int64) : zH (aX adK adV) l yL_passages wsL_passages { frames := 8, cells := 1, slots := 6, locals := 125 } D (zTy κ) [.ref (ra), .int (x), .int (y), .ref oa] (OUTW κ oa fo ++ (SW κ Sa g ++ (RC ra (Sa 0) f9 h9 a9 b9 p9 o9))) (S := Unit) (fun _ => some (.int (nI 1))) (fun _ => True) (fun _ => OUTW κ oa fo ++ (SW κ Sa g ++ (RC ra (Sa 0) f9 h9 a9 b9 p9 o9))) 1 6 := by
  refine zH_of (cc := cL_passages) (maxL := 5) (rt := some .int) (hh := [(0, 10, 13, 19)]) [(0, .ref (ra)), (1, .int (x)), (2, .int (y)), (3, .ref (oa))] (by decide +kernel) rfl (Nat.le_of_ble_eq_true rfl) rfl ?_
  intro p e s m args below meth c A C hr9 hk htab hX
  have C : zC p s m args c cL_passages 5 wsL_passages RL D (zTy κ) A := C
  refine z_aload_n C dL_passages_0 3 rfl ?_
  refine z_iconst (v := nI 0) C dL_passages_1 (by decide) ?_
  refine z_aload_n C dL_passages_2 0 rfl ?_
  refine z_iload_n C dL_passages_3 1 rfl ?_
  refine z_iload_n C dL_passages_4 2 rfl ?_
  refine zx_catchV C (aX_ok adK adV) hX (mX5_passages_no l D κ adK adV Sa g ra f9 h9 a9 b9 p9 o9 σ M x y hls hr hv hx) gL_passages_X5_passages rfl rfl rfl hdX5_passages ⟨(Nat.le_of_ble_eq_true rfl), (Nat.le_of_ble_eq_true rfl)⟩ 13 rfl rfl (OUTW κ oa fo) (fun _ => OUTW κ oa fo ++ (SW κ Sa g ++ (RC ra (Sa 0) f9 h9 a9 b9 p9 o9))) List.perm_append_comm (fun _ => List.perm_append_comm) rfl (Nat.le_of_ble_eq_true rfl) dL_passages_5 ⟨(Nat.le_of_ble_eq_true rfl), (Nat.le_of_ble_eq_true rfl)⟩ [] ⟨0, 10, 13, 19⟩ [] htab (fun z hz => absurd hz List.not_mem_nil) (by decide) (by decide) (name := eIB) (show Cond.classLink RL 19 eIB ∈ wsL_passages from by decide +kernel) (hX.2.2.1 _ (by simp [nCs])) (fun u q hu => ?_)
  refine z_astore C [(4, .ref (q)), (0, .ref (ra)), (1, .int (x)), (2, .int (y)), (3, .ref (oa))] dL_passages_13 (by decide) rfl ?_
  refine z_iconst (v := nI 1) C dL_passages_15 (by decide) ?_
  exact zh_iret C hr9 hk u rfl hu (List.Perm.of_eq rfl) dL_passages_16 (Nat.le_of_ble_eq_true rfl) (Nat.le_of_ble_eq_true rfl)
set_option maxRecDepth 100000 in
set_option maxHeartbeats 4000000 in
theorem mL_passages_nb (l : Launch) (D : va_G) (κ : Nat → ClassId) (adK adV : Nat → Nat) (Sa : Nat → Nat) (g : Nat → Nat → Nat) (ra f9 h9 a9 b9 p9 o9 : Nat) (σ : Nat → Nat) (M : Nat) (b : Nat) (x : Int32) (hls : l.stackTraces = false) (hr : Rep g σ) (hv : Inv M σ) (hb : b < σ 2) (hx : isB (σ 1) x = false) (oa : Nat) (fo : Nat → Int64) : zH (aX adK adV) l yL_passages wsL_passages { frames := 8, cells := 1, slots := 6, locals := 125 } D (zTy κ) [.ref (ra), .int (nI b), .int (x), .ref oa] (OUTW κ oa fo ++ (SW κ Sa g ++ (RC ra (Sa 0) f9 h9 a9 b9 p9 o9))) (S := Unit) (fun _ => some (.int (nI 1))) (fun _ => True) (fun _ => OUTW κ oa fo ++ (SW κ Sa g ++ (RC ra (Sa 0) f9 h9 a9 b9 p9 o9))) 1 6 := by
  refine zH_of (cc := cL_passages) (maxL := 5) (rt := some .int) (hh := [(0, 10, 13, 19)]) [(0, .ref (ra)), (1, .int (nI b)), (2, .int (x)), (3, .ref (oa))] (by decide +kernel) rfl (Nat.le_of_ble_eq_true rfl) rfl ?_
  intro p e s m args below meth c A C hr9 hk htab hX
  have C : zC p s m args c cL_passages 5 wsL_passages RL D (zTy κ) A := C
  refine z_aload_n C dL_passages_0 3 rfl ?_
  refine z_iconst (v := nI 0) C dL_passages_1 (by decide) ?_
  refine z_aload_n C dL_passages_2 0 rfl ?_
  refine z_iload_n C dL_passages_3 1 rfl ?_
  refine z_iload_n C dL_passages_4 2 rfl ?_
  refine zx_catchV C (aX_ok adK adV) hX (mX5_passages_nb l D κ adK adV Sa g ra f9 h9 a9 b9 p9 o9 σ M b x hls hr hv hb hx) gL_passages_X5_passages rfl rfl rfl hdX5_passages ⟨(Nat.le_of_ble_eq_true rfl), (Nat.le_of_ble_eq_true rfl)⟩ 13 rfl rfl (OUTW κ oa fo) (fun _ => OUTW κ oa fo ++ (SW κ Sa g ++ (RC ra (Sa 0) f9 h9 a9 b9 p9 o9))) List.perm_append_comm (fun _ => List.perm_append_comm) rfl (Nat.le_of_ble_eq_true rfl) dL_passages_5 ⟨(Nat.le_of_ble_eq_true rfl), (Nat.le_of_ble_eq_true rfl)⟩ [] ⟨0, 10, 13, 19⟩ [] htab (fun z hz => absurd hz List.not_mem_nil) (by decide) (by decide) (name := eIB) (show Cond.classLink RL 19 eIB ∈ wsL_passages from by decide +kernel) (hX.2.2.1 _ (by simp [nCs])) (fun u q hu => ?_)
  refine z_astore C [(4, .ref (q)), (0, .ref (ra)), (1, .int (nI b)), (2, .int (x)), (3, .ref (oa))] dL_passages_13 (by decide) rfl ?_
  refine z_iconst (v := nI 1) C dL_passages_15 (by decide) ?_
  exact zh_iret C hr9 hk u rfl hu (List.Perm.of_eq rfl) dL_passages_16 (Nat.le_of_ble_eq_true rfl) (Nat.le_of_ble_eq_true rfl)
set_option maxRecDepth 100000 in
set_option maxHeartbeats 4000000 in
theorem mL_ticksToEnd_ok (l : Launch) (D : va_G) (κ : Nat → ClassId) (Sa : Nat → Nat) (g : Nat → Nat → Nat) (ra f9 h9 a9 b9 p9 o9 : Nat) (σ : Nat → Nat) (M : Nat) (b : Nat) (hr : Rep g σ) (hv : Inv M σ) (hb : b < σ 2) (adK adV : Nat → Nat) (oa : Nat) (fo : Nat → Int64) : zH (aX adK adV) l yL_ticksToEnd wsL_ticksToEnd { frames := 3, cells := 0, slots := 0, locals := 65 } D (zTy κ) [.ref ra, .int (nI b), .ref oa] (OUTW κ oa fo ++ (SW κ Sa g ++ (RC ra (Sa 0) f9 h9 a9 b9 p9 o9))) (S := Unit) (fun _ => some (.int (nI 0))) (fun _ => True) (fun _ => OUTW κ oa (vp_updL fo 0 (((nI ((σ (5 + 6 * σ (65 + 5 * b + 2) + 0) - σ (65 + 5 * b + 3) + spd σ b - 1) / spd σ b))).toInt64)) ++ (SW κ Sa g ++ (RC ra (Sa 0) f9 h9 a9 b9 p9 o9))) 0 0 := by
  refine zH_of (cc := cL_ticksToEnd) (maxL := 4) (rt := some .int) (hh := [(0, 9, 12, 19)]) [(0, .ref (ra)), (1, .int (nI b)), (2, .ref (oa))] (by decide +kernel) rfl (Nat.le_of_ble_eq_true rfl) rfl ?_
  intro p e s m args below meth c A C hr9 hk htab hX
  have C : zC p s m args c cL_ticksToEnd 4 wsL_ticksToEnd RL D (zTy κ) A := C
  refine z_aload_n C dL_ticksToEnd_0 2 rfl ?_
  refine z_iconst (v := nI 0) C dL_ticksToEnd_1 (by decide) ?_
  refine z_aload_n C dL_ticksToEnd_2 0 rfl ?_
  refine z_iload_n C dL_ticksToEnd_3 1 rfl ?_
  refine z_callV C (mX5_ticksToEnd_ok l D κ Sa g ra f9 h9 a9 b9 p9 o9 σ M b hr hv hb) gL_ticksToEnd_X5_ticksToEnd rfl rfl rfl hdX5_ticksToEnd ⟨(Nat.le_of_ble_eq_true rfl), (Nat.le_of_ble_eq_true rfl)⟩ 13 rfl rfl (OUTW κ oa fo) (fun _ => OUTW κ oa fo ++ (SW κ Sa g ++ (RC ra (Sa 0) f9 h9 a9 b9 p9 o9))) List.perm_append_comm (fun _ => List.perm_append_comm) rfl (Nat.le_of_ble_eq_true rfl) dL_ticksToEnd_4 ⟨(Nat.le_of_ble_eq_true rfl), (Nat.le_of_ble_eq_true rfl)⟩ (fun u hu => ?_)
  refine z_i2l C dL_ticksToEnd_7 rfl ?_
  refine z_last C 0 4 rfl rfl (i := 0) (by decide) (by decide) dL_ticksToEnd_8 (OUTW κ oa (vp_updL fo 0 (((nI ((σ (5 + 6 * σ (65 + 5 * b + 2) + 0) - σ (65 + 5 * b + 3) + spd σ b - 1) / spd σ b))).toInt64)) ++ (SW κ Sa g ++ (RC ra (Sa 0) f9 h9 a9 b9 p9 o9))) rfl ?_
  refine z_goto (tgt := 15) C dL_ticksToEnd_9 (by decide) ?_
  refine z_iconst (v := nI 0) C dL_ticksToEnd_15 (by decide) ?_
  exact zh_iret C hr9 hk u rfl hu (List.Perm.of_eq rfl) dL_ticksToEnd_16 (Nat.le_of_ble_eq_true rfl) (Nat.le_of_ble_eq_true rfl)
theorem hdL_ticksToEnd : yL_ticksToEnd.cls ≠ "java/lang/invoke/MethodHandle" ∧ yL_ticksToEnd.cls ≠ "java/lang/invoke/VarHandle" ∧ (parseMethodDescriptor yL_ticksToEnd.desc).map (fun d => d.parameters.length) = some 3 := by decide +kernel
set_option maxRecDepth 100000 in
set_option maxHeartbeats 4000000 in
theorem mL_ticksToEnd_no (l : Launch) (D : va_G) (κ : Nat → ClassId) (adK adV : Nat → Nat) (Sa : Nat → Nat) (g : Nat → Nat → Nat) (ra f9 h9 a9 b9 p9 o9 : Nat) (σ : Nat → Nat) (M : Nat) (x : Int32) (hls : l.stackTraces = false) (hr : Rep g σ) (hv : Inv M σ) (hx : isB (σ 2) x = false) (oa : Nat) (fo : Nat → Int64) : zH (aX adK adV) l yL_ticksToEnd wsL_ticksToEnd { frames := 8, cells := 1, slots := 6, locals := 126 } D (zTy κ) [.ref (ra), .int (x), .ref oa] (OUTW κ oa fo ++ (SW κ Sa g ++ (RC ra (Sa 0) f9 h9 a9 b9 p9 o9))) (S := Unit) (fun _ => some (.int (nI 1))) (fun _ => True) (fun _ => OUTW κ oa fo ++ (SW κ Sa g ++ (RC ra (Sa 0) f9 h9 a9 b9 p9 o9))) 1 6 := by
  refine zH_of (cc := cL_ticksToEnd) (maxL := 4) (rt := some .int) (hh := [(0, 9, 12, 19)]) [(0, .ref (ra)), (1, .int (x)), (2, .ref (oa))] (by decide +kernel) rfl (Nat.le_of_ble_eq_true rfl) rfl ?_
  intro p e s m args below meth c A C hr9 hk htab hX
  have C : zC p s m args c cL_ticksToEnd 4 wsL_ticksToEnd RL D (zTy κ) A := C
  refine z_aload_n C dL_ticksToEnd_0 2 rfl ?_
  refine z_iconst (v := nI 0) C dL_ticksToEnd_1 (by decide) ?_
  refine z_aload_n C dL_ticksToEnd_2 0 rfl ?_
  refine z_iload_n C dL_ticksToEnd_3 1 rfl ?_
  refine zx_catchV C (aX_ok adK adV) hX (mX5_ticksToEnd_no l D κ adK adV Sa g ra f9 h9 a9 b9 p9 o9 σ M x hls hr hv hx) gL_ticksToEnd_X5_ticksToEnd rfl rfl rfl hdX5_ticksToEnd ⟨(Nat.le_of_ble_eq_true rfl), (Nat.le_of_ble_eq_true rfl)⟩ 13 rfl rfl (OUTW κ oa fo) (fun _ => OUTW κ oa fo ++ (SW κ Sa g ++ (RC ra (Sa 0) f9 h9 a9 b9 p9 o9))) List.perm_append_comm (fun _ => List.perm_append_comm) rfl (Nat.le_of_ble_eq_true rfl) dL_ticksToEnd_4 ⟨(Nat.le_of_ble_eq_true rfl), (Nat.le_of_ble_eq_true rfl)⟩ [] ⟨0, 9, 12, 19⟩ [] htab (fun z hz => absurd hz List.not_mem_nil) (by decide) (by decide) (name := eIB) (show Cond.classLink RL 19 eIB ∈ wsL_ticksToEnd from by decide +kernel) (hX.2.2.1 _ (by simp [nCs])) (fun u q hu => ?_)
  refine z_astore_n C [(3, .ref (q)), (0, .ref (ra)), (1, .int (x)), (2, .ref (oa))] dL_ticksToEnd_12 (by decide) rfl ?_
  refine z_iconst (v := nI 1) C dL_ticksToEnd_13 (by decide) ?_
  exact zh_iret C hr9 hk u rfl hu (List.Perm.of_eq rfl) dL_ticksToEnd_14 (Nat.le_of_ble_eq_true rfl) (Nat.le_of_ble_eq_true rfl)
set_option maxRecDepth 100000 in
set_option maxHeartbeats 4000000 in
theorem mL_trainAhead_ok (l : Launch) (D : va_G) (κ : Nat → ClassId) (Sa : Nat → Nat) (g : Nat → Nat → Nat) (ra f9 h9 a9 b9 p9 o9 : Nat) (σ : Nat → Nat) (M : Nat) (b : Nat) (hr : Rep g σ) (hv : Inv M σ) (hb : b < σ 2) (adK adV : Nat → Nat) (oa : Nat) (fo : Nat → Int64) : zH (aX adK adV) l yL_trainAhead wsL_trainAhead { frames := 2, cells := 0, slots := 0, locals := 44 } D (zTy κ) [.ref ra, .int (nI b), .ref oa] (OUTW κ oa fo ++ (SW κ Sa g ++ (RC ra (Sa 0) f9 h9 a9 b9 p9 o9))) (S := Unit) (fun _ => some (.int (nI 0))) (fun _ => True) (fun _ => OUTW κ oa (vp_updL fo 0 (((tI (ahT σ b))).toInt64)) ++ (SW κ Sa g ++ (RC ra (Sa 0) f9 h9 a9 b9 p9 o9))) 0 0 := by
  refine zH_of (cc := cL_trainAhead) (maxL := 4) (rt := some .int) (hh := [(0, 9, 12, 19)]) [(0, .ref (ra)), (1, .int (nI b)), (2, .ref (oa))] (by decide +kernel) rfl (Nat.le_of_ble_eq_true rfl) rfl ?_
  intro p e s m args below meth c A C hr9 hk htab hX
  have C : zC p s m args c cL_trainAhead 4 wsL_trainAhead RL D (zTy κ) A := C
  refine z_aload_n C dL_trainAhead_0 2 rfl ?_
  refine z_iconst (v := nI 0) C dL_trainAhead_1 (by decide) ?_
  refine z_aload_n C dL_trainAhead_2 0 rfl ?_
  refine z_iload_n C dL_trainAhead_3 1 rfl ?_
  refine z_callV C (mX5_trainAhead_ok l D κ Sa g ra f9 h9 a9 b9 p9 o9 σ M b hr hv hb) gL_trainAhead_X5_trainAhead rfl rfl rfl hdX5_trainAhead ⟨(Nat.le_of_ble_eq_true rfl), (Nat.le_of_ble_eq_true rfl)⟩ 13 rfl rfl (OUTW κ oa fo) (fun _ => OUTW κ oa fo ++ (SW κ Sa g ++ (RC ra (Sa 0) f9 h9 a9 b9 p9 o9))) List.perm_append_comm (fun _ => List.perm_append_comm) rfl (Nat.le_of_ble_eq_true rfl) dL_trainAhead_4 ⟨(Nat.le_of_ble_eq_true rfl), (Nat.le_of_ble_eq_true rfl)⟩ (fun u hu => ?_)
  refine z_i2l C dL_trainAhead_7 rfl ?_
  refine z_last C 0 4 rfl rfl (i := 0) (by decide) (by decide) dL_trainAhead_8 (OUTW κ oa (vp_updL fo 0 (((tI (ahT σ b))).toInt64)) ++ (SW κ Sa g ++ (RC ra (Sa 0) f9 h9 a9 b9 p9 o9))) rfl ?_
  refine z_goto (tgt := 15) C dL_trainAhead_9 (by decide) ?_
  refine z_iconst (v := nI 0) C dL_trainAhead_15 (by decide) ?_
  exact zh_iret C hr9 hk u rfl hu (List.Perm.of_eq rfl) dL_trainAhead_16 (Nat.le_of_ble_eq_true rfl) (Nat.le_of_ble_eq_true rfl)
theorem hdL_trainAhead : yL_trainAhead.cls ≠ "java/lang/invoke/MethodHandle" ∧ yL_trainAhead.cls ≠ "java/lang/invoke/VarHandle" ∧ (parseMethodDescriptor yL_trainAhead.desc).map (fun d => d.parameters.length) = some 3 := by decide +kernel
set_option maxRecDepth 100000 in
set_option maxHeartbeats 4000000 in
theorem mL_trainAhead_no (l : Launch) (D : va_G) (κ : Nat → ClassId) (adK adV : Nat → Nat) (Sa : Nat → Nat) (g : Nat → Nat → Nat) (ra f9 h9 a9 b9 p9 o9 : Nat) (σ : Nat → Nat) (M : Nat) (x : Int32) (hls : l.stackTraces = false) (hr : Rep g σ) (hv : Inv M σ) (hx : isB (σ 2) x = false) (oa : Nat) (fo : Nat → Int64) : zH (aX adK adV) l yL_trainAhead wsL_trainAhead { frames := 8, cells := 1, slots := 6, locals := 126 } D (zTy κ) [.ref (ra), .int (x), .ref oa] (OUTW κ oa fo ++ (SW κ Sa g ++ (RC ra (Sa 0) f9 h9 a9 b9 p9 o9))) (S := Unit) (fun _ => some (.int (nI 1))) (fun _ => True) (fun _ => OUTW κ oa fo ++ (SW κ Sa g ++ (RC ra (Sa 0) f9 h9 a9 b9 p9 o9))) 1 6 := by
  refine zH_of (cc := cL_trainAhead) (maxL := 4) (rt := some .int) (hh := [(0, 9, 12, 19)]) [(0, .ref (ra)), (1, .int (x)), (2, .ref (oa))] (by decide +kernel) rfl (Nat.le_of_ble_eq_true rfl) rfl ?_
  intro p e s m args below meth c A C hr9 hk htab hX
  have C : zC p s m args c cL_trainAhead 4 wsL_trainAhead RL D (zTy κ) A := C
  refine z_aload_n C dL_trainAhead_0 2 rfl ?_
  refine z_iconst (v := nI 0) C dL_trainAhead_1 (by decide) ?_
  refine z_aload_n C dL_trainAhead_2 0 rfl ?_
  refine z_iload_n C dL_trainAhead_3 1 rfl ?_
  refine zx_catchV C (aX_ok adK adV) hX (mX5_trainAhead_no l D κ adK adV Sa g ra f9 h9 a9 b9 p9 o9 σ M x hls hr hv hx) gL_trainAhead_X5_trainAhead rfl rfl rfl hdX5_trainAhead ⟨(Nat.le_of_ble_eq_true rfl), (Nat.le_of_ble_eq_true rfl)⟩ 13 rfl rfl (OUTW κ oa fo) (fun _ => OUTW κ oa fo ++ (SW κ Sa g ++ (RC ra (Sa 0) f9 h9 a9 b9 p9 o9))) List.perm_append_comm (fun _ => List.perm_append_comm) rfl (Nat.le_of_ble_eq_true rfl) dL_trainAhead_4 ⟨(Nat.le_of_ble_eq_true rfl), (Nat.le_of_ble_eq_true rfl)⟩ [] ⟨0, 9, 12, 19⟩ [] htab (fun z hz => absurd hz List.not_mem_nil) (by decide) (by decide) (name := eIB) (show Cond.classLink RL 19 eIB ∈ wsL_trainAhead from by decide +kernel) (hX.2.2.1 _ (by simp [nCs])) (fun u q hu => ?_)
  refine z_astore_n C [(3, .ref (q)), (0, .ref (ra)), (1, .int (x)), (2, .ref (oa))] dL_trainAhead_12 (by decide) rfl ?_
  refine z_iconst (v := nI 1) C dL_trainAhead_13 (by decide) ?_
  exact zh_iret C hr9 hk u rfl hu (List.Perm.of_eq rfl) dL_trainAhead_14 (Nat.le_of_ble_eq_true rfl) (Nat.le_of_ble_eq_true rfl)
set_option maxRecDepth 100000 in
set_option maxHeartbeats 4000000 in
theorem mL_clearBlocksAhead_ok (l : Launch) (D : va_G) (κ : Nat → ClassId) (Sa : Nat → Nat) (g : Nat → Nat → Nat) (ra f9 h9 a9 b9 p9 o9 : Nat) (σ : Nat → Nat) (M : Nat) (b : Nat) (hr : Rep g σ) (hv : Inv M σ) (hb : b < σ 2) (adK adV : Nat → Nat) (oa : Nat) (fo : Nat → Int64) : zH (aX adK adV) l yL_clearBlocksAhead wsL_clearBlocksAhead { frames := 2, cells := 0, slots := 0, locals := 44 } D (zTy κ) [.ref ra, .int (nI b), .ref oa] (OUTW κ oa fo ++ (SW κ Sa g ++ (RC ra (Sa 0) f9 h9 a9 b9 p9 o9))) (S := Unit) (fun _ => some (.int (nI 0))) (fun _ => True) (fun _ => OUTW κ oa (vp_updL fo 0 (((nI (cbA σ b))).toInt64)) ++ (SW κ Sa g ++ (RC ra (Sa 0) f9 h9 a9 b9 p9 o9))) 0 0 := by
  refine zH_of (cc := cL_clearBlocksAhead) (maxL := 4) (rt := some .int) (hh := [(0, 9, 12, 19)]) [(0, .ref (ra)), (1, .int (nI b)), (2, .ref (oa))] (by decide +kernel) rfl (Nat.le_of_ble_eq_true rfl) rfl ?_
  intro p e s m args below meth c A C hr9 hk htab hX
  have C : zC p s m args c cL_clearBlocksAhead 4 wsL_clearBlocksAhead RL D (zTy κ) A := C
  refine z_aload_n C dL_clearBlocksAhead_0 2 rfl ?_
  refine z_iconst (v := nI 0) C dL_clearBlocksAhead_1 (by decide) ?_
  refine z_aload_n C dL_clearBlocksAhead_2 0 rfl ?_
  refine z_iload_n C dL_clearBlocksAhead_3 1 rfl ?_
  refine z_callV C (mX5_clearBlocksAhead_ok l D κ Sa g ra f9 h9 a9 b9 p9 o9 σ M b hr hv hb) gL_clearBlocksAhead_X5_clearBlocksAhead rfl rfl rfl hdX5_clearBlocksAhead ⟨(Nat.le_of_ble_eq_true rfl), (Nat.le_of_ble_eq_true rfl)⟩ 13 rfl rfl (OUTW κ oa fo) (fun _ => OUTW κ oa fo ++ (SW κ Sa g ++ (RC ra (Sa 0) f9 h9 a9 b9 p9 o9))) List.perm_append_comm (fun _ => List.perm_append_comm) rfl (Nat.le_of_ble_eq_true rfl) dL_clearBlocksAhead_4 ⟨(Nat.le_of_ble_eq_true rfl), (Nat.le_of_ble_eq_true rfl)⟩ (fun u hu => ?_)
  refine z_i2l C dL_clearBlocksAhead_7 rfl ?_
  refine z_last C 0 4 rfl rfl (i := 0) (by decide) (by decide) dL_clearBlocksAhead_8 (OUTW κ oa (vp_updL fo 0 (((nI (cbA σ b))).toInt64)) ++ (SW κ Sa g ++ (RC ra (Sa 0) f9 h9 a9 b9 p9 o9))) rfl ?_
  refine z_goto (tgt := 15) C dL_clearBlocksAhead_9 (by decide) ?_
  refine z_iconst (v := nI 0) C dL_clearBlocksAhead_15 (by decide) ?_
  exact zh_iret C hr9 hk u rfl hu (List.Perm.of_eq rfl) dL_clearBlocksAhead_16 (Nat.le_of_ble_eq_true rfl) (Nat.le_of_ble_eq_true rfl)
theorem hdL_clearBlocksAhead : yL_clearBlocksAhead.cls ≠ "java/lang/invoke/MethodHandle" ∧ yL_clearBlocksAhead.cls ≠ "java/lang/invoke/VarHandle" ∧ (parseMethodDescriptor yL_clearBlocksAhead.desc).map (fun d => d.parameters.length) = some 3 := by decide +kernel
set_option maxRecDepth 100000 in
set_option maxHeartbeats 4000000 in
theorem mL_clearBlocksAhead_no (l : Launch) (D : va_G) (κ : Nat → ClassId) (adK adV : Nat → Nat) (Sa : Nat → Nat) (g : Nat → Nat → Nat) (ra f9 h9 a9 b9 p9 o9 : Nat) (σ : Nat → Nat) (M : Nat) (x : Int32) (hls : l.stackTraces = false) (hr : Rep g σ) (hv : Inv M σ) (hx : isB (σ 2) x = false) (oa : Nat) (fo : Nat → Int64) : zH (aX adK adV) l yL_clearBlocksAhead wsL_clearBlocksAhead { frames := 8, cells := 1, slots := 6, locals := 126 } D (zTy κ) [.ref (ra), .int (x), .ref oa] (OUTW κ oa fo ++ (SW κ Sa g ++ (RC ra (Sa 0) f9 h9 a9 b9 p9 o9))) (S := Unit) (fun _ => some (.int (nI 1))) (fun _ => True) (fun _ => OUTW κ oa fo ++ (SW κ Sa g ++ (RC ra (Sa 0) f9 h9 a9 b9 p9 o9))) 1 6 := by
  refine zH_of (cc := cL_clearBlocksAhead) (maxL := 4) (rt := some .int) (hh := [(0, 9, 12, 19)]) [(0, .ref (ra)), (1, .int (x)), (2, .ref (oa))] (by decide +kernel) rfl (Nat.le_of_ble_eq_true rfl) rfl ?_
  intro p e s m args below meth c A C hr9 hk htab hX
  have C : zC p s m args c cL_clearBlocksAhead 4 wsL_clearBlocksAhead RL D (zTy κ) A := C
  refine z_aload_n C dL_clearBlocksAhead_0 2 rfl ?_
  refine z_iconst (v := nI 0) C dL_clearBlocksAhead_1 (by decide) ?_
  refine z_aload_n C dL_clearBlocksAhead_2 0 rfl ?_
  refine z_iload_n C dL_clearBlocksAhead_3 1 rfl ?_
  refine zx_catchV C (aX_ok adK adV) hX (mX5_clearBlocksAhead_no l D κ adK adV Sa g ra f9 h9 a9 b9 p9 o9 σ M x hls hr hv hx) gL_clearBlocksAhead_X5_clearBlocksAhead rfl rfl rfl hdX5_clearBlocksAhead ⟨(Nat.le_of_ble_eq_true rfl), (Nat.le_of_ble_eq_true rfl)⟩ 13 rfl rfl (OUTW κ oa fo) (fun _ => OUTW κ oa fo ++ (SW κ Sa g ++ (RC ra (Sa 0) f9 h9 a9 b9 p9 o9))) List.perm_append_comm (fun _ => List.perm_append_comm) rfl (Nat.le_of_ble_eq_true rfl) dL_clearBlocksAhead_4 ⟨(Nat.le_of_ble_eq_true rfl), (Nat.le_of_ble_eq_true rfl)⟩ [] ⟨0, 9, 12, 19⟩ [] htab (fun z hz => absurd hz List.not_mem_nil) (by decide) (by decide) (name := eIB) (show Cond.classLink RL 19 eIB ∈ wsL_clearBlocksAhead from by decide +kernel) (hX.2.2.1 _ (by simp [nCs])) (fun u q hu => ?_)
  refine z_astore_n C [(3, .ref (q)), (0, .ref (ra)), (1, .int (x)), (2, .ref (oa))] dL_clearBlocksAhead_12 (by decide) rfl ?_
  refine z_iconst (v := nI 1) C dL_clearBlocksAhead_13 (by decide) ?_
  exact zh_iret C hr9 hk u rfl hu (List.Perm.of_eq rfl) dL_clearBlocksAhead_14 (Nat.le_of_ble_eq_true rfl) (Nat.le_of_ble_eq_true rfl)
set_option maxRecDepth 100000 in
set_option maxHeartbeats 4000000 in
theorem mL_canEnter_ok (l : Launch) (D : va_G) (κ : Nat → ClassId) (Sa : Nat → Nat) (g : Nat → Nat → Nat) (ra f9 h9 a9 b9 p9 o9 : Nat) (σ : Nat → Nat) (M : Nat) (b : Nat) (hr : Rep g σ) (hv : Inv M σ) (hb : b < σ 2) (adK adV : Nat → Nat) (oa : Nat) (fo : Nat → Int64) : zH (aX adK adV) l yL_canEnter wsL_canEnter { frames := 3, cells := 0, slots := 0, locals := 63 } D (zTy κ) [.ref ra, .int (nI b), .ref oa] (OUTW κ oa fo ++ (SW κ Sa g ++ (RC ra (Sa 0) f9 h9 a9 b9 p9 o9))) (S := Unit) (fun _ => some (.int (nI 0))) (fun _ => True) (fun _ => OUTW κ oa (vp_updL fo 0 (((nI (mayE σ b).toNat)).toInt64)) ++ (SW κ Sa g ++ (RC ra (Sa 0) f9 h9 a9 b9 p9 o9))) 0 0 := by
  refine zH_of (cc := cL_canEnter) (maxL := 4) (rt := some .int) (hh := [(0, 16, 19, 19)]) [(0, .ref (ra)), (1, .int (nI b)), (2, .ref (oa))] (by decide +kernel) rfl (Nat.le_of_ble_eq_true rfl) rfl ?_
  intro p e s m args below meth c A C hr9 hk htab hX
  have C : zC p s m args c cL_canEnter 4 wsL_canEnter RL D (zTy κ) A := C
  refine z_aload_n C dL_canEnter_0 2 rfl ?_
  refine z_iconst (v := nI 0) C dL_canEnter_1 (by decide) ?_
  refine z_aload_n C dL_canEnter_2 0 rfl ?_
  refine z_iload_n C dL_canEnter_3 1 rfl ?_
  refine z_callV C (mX5_canEnter_ok l D κ Sa g ra f9 h9 a9 b9 p9 o9 σ M b hr hv hb) gL_canEnter_X5_canEnter rfl rfl rfl hdX5_canEnter ⟨(Nat.le_of_ble_eq_true rfl), (Nat.le_of_ble_eq_true rfl)⟩ 13 rfl rfl (OUTW κ oa fo) (fun _ => OUTW κ oa fo ++ (SW κ Sa g ++ (RC ra (Sa 0) f9 h9 a9 b9 p9 o9))) List.perm_append_comm (fun _ => List.perm_append_comm) rfl (Nat.le_of_ble_eq_true rfl) dL_canEnter_4 ⟨(Nat.le_of_ble_eq_true rfl), (Nat.le_of_ble_eq_true rfl)⟩ (fun u hu => ?_)
  refine zb_if_eq C 14 dL_canEnter_7 (by decide) (fun h1 => ?_) (fun h2 => ?_)
  · refine z_lconst (v := 0) C dL_canEnter_14 (by decide) ?_
    refine z_last C 0 4 rfl rfl (i := 0) (by decide) (by decide) dL_canEnter_15 (OUTW κ oa (vp_updL fo 0 (0)) ++ (SW κ Sa g ++ (RC ra (Sa 0) f9 h9 a9 b9 p9 o9))) rfl ?_
    refine z_goto (tgt := 22) C dL_canEnter_16 (by decide) ?_
    refine z_iconst (v := nI 0) C dL_canEnter_22 (by decide) ?_
    exact zh_iret C hr9 hk u rfl hu (List.Perm.of_eq (by rw [h1]; rfl)) dL_canEnter_23 (Nat.le_of_ble_eq_true rfl) (Nat.le_of_ble_eq_true rfl)
  · refine z_lconst (v := 1) C dL_canEnter_10 (by decide) ?_
    refine z_goto (tgt := 15) C dL_canEnter_11 (by decide) ?_
    refine z_last C 0 4 rfl rfl (i := 0) (by decide) (by decide) dL_canEnter_15 (OUTW κ oa (vp_updL fo 0 (1)) ++ (SW κ Sa g ++ (RC ra (Sa 0) f9 h9 a9 b9 p9 o9))) rfl ?_
    refine z_goto (tgt := 22) C dL_canEnter_16 (by decide) ?_
    refine z_iconst (v := nI 0) C dL_canEnter_22 (by decide) ?_
    exact zh_iret C hr9 hk u rfl hu (List.Perm.of_eq (by rw [h2]; rfl)) dL_canEnter_23 (Nat.le_of_ble_eq_true rfl) (Nat.le_of_ble_eq_true rfl)
theorem hdL_canEnter : yL_canEnter.cls ≠ "java/lang/invoke/MethodHandle" ∧ yL_canEnter.cls ≠ "java/lang/invoke/VarHandle" ∧ (parseMethodDescriptor yL_canEnter.desc).map (fun d => d.parameters.length) = some 3 := by decide +kernel
set_option maxRecDepth 100000 in
set_option maxHeartbeats 4000000 in
theorem mL_canEnter_no (l : Launch) (D : va_G) (κ : Nat → ClassId) (adK adV : Nat → Nat) (Sa : Nat → Nat) (g : Nat → Nat → Nat) (ra f9 h9 a9 b9 p9 o9 : Nat) (σ : Nat → Nat) (M : Nat) (x : Int32) (hls : l.stackTraces = false) (hr : Rep g σ) (hv : Inv M σ) (hx : isB (σ 2) x = false) (oa : Nat) (fo : Nat → Int64) : zH (aX adK adV) l yL_canEnter wsL_canEnter { frames := 8, cells := 1, slots := 6, locals := 124 } D (zTy κ) [.ref (ra), .int (x), .ref oa] (OUTW κ oa fo ++ (SW κ Sa g ++ (RC ra (Sa 0) f9 h9 a9 b9 p9 o9))) (S := Unit) (fun _ => some (.int (nI 1))) (fun _ => True) (fun _ => OUTW κ oa fo ++ (SW κ Sa g ++ (RC ra (Sa 0) f9 h9 a9 b9 p9 o9))) 1 6 := by
  refine zH_of (cc := cL_canEnter) (maxL := 4) (rt := some .int) (hh := [(0, 16, 19, 19)]) [(0, .ref (ra)), (1, .int (x)), (2, .ref (oa))] (by decide +kernel) rfl (Nat.le_of_ble_eq_true rfl) rfl ?_
  intro p e s m args below meth c A C hr9 hk htab hX
  have C : zC p s m args c cL_canEnter 4 wsL_canEnter RL D (zTy κ) A := C
  refine z_aload_n C dL_canEnter_0 2 rfl ?_
  refine z_iconst (v := nI 0) C dL_canEnter_1 (by decide) ?_
  refine z_aload_n C dL_canEnter_2 0 rfl ?_
  refine z_iload_n C dL_canEnter_3 1 rfl ?_
  refine zx_catchV C (aX_ok adK adV) hX (mX5_canEnter_no l D κ adK adV Sa g ra f9 h9 a9 b9 p9 o9 σ M x hls hr hv hx) gL_canEnter_X5_canEnter rfl rfl rfl hdX5_canEnter ⟨(Nat.le_of_ble_eq_true rfl), (Nat.le_of_ble_eq_true rfl)⟩ 13 rfl rfl (OUTW κ oa fo) (fun _ => OUTW κ oa fo ++ (SW κ Sa g ++ (RC ra (Sa 0) f9 h9 a9 b9 p9 o9))) List.perm_append_comm (fun _ => List.perm_append_comm) rfl (Nat.le_of_ble_eq_true rfl) dL_canEnter_4 ⟨(Nat.le_of_ble_eq_true rfl), (Nat.le_of_ble_eq_true rfl)⟩ [] ⟨0, 16, 19, 19⟩ [] htab (fun z hz => absurd hz List.not_mem_nil) (by decide) (by decide) (name := eIB) (show Cond.classLink RL 19 eIB ∈ wsL_canEnter from by decide +kernel) (hX.2.2.1 _ (by simp [nCs])) (fun u q hu => ?_)
  refine z_astore_n C [(3, .ref (q)), (0, .ref (ra)), (1, .int (x)), (2, .ref (oa))] dL_canEnter_19 (by decide) rfl ?_
  refine z_iconst (v := nI 1) C dL_canEnter_20 (by decide) ?_
  exact zh_iret C hr9 hk u rfl hu (List.Perm.of_eq rfl) dL_canEnter_21 (Nat.le_of_ble_eq_true rfl) (Nat.le_of_ble_eq_true rfl)
set_option maxRecDepth 100000 in
set_option maxHeartbeats 4000000 in
theorem mL_blockAfter_ok (l : Launch) (D : va_G) (κ : Nat → ClassId) (Sf Sa : Nat → Nat) (f g : Nat → Nat → Nat) (ra h9 a9 b9 p9 o9 : Nat) (σ : Nat → Nat) (M : Nat) (b n : Nat) (hr : Rep g σ) (hv : Inv M σ) (hb : b < σ 2) (hn : n ≤ 200) (hM : M + 11 * n + 11 < 1073741824) (adK adV : Nat → Nat) (oa : Nat) (fo : Nat → Int64) : zH (aX adK adV) l yL_blockAfter wsL_blockAfter { frames := 5, cells := 0, slots := 0, locals := 114 } D (zTy κ) [.ref ra, .int (nI b), .int (nI n), .ref oa] (OUTW κ oa fo ++ (SW κ Sf f ++ (SW κ Sa g ++ RC ra (Sa 0) (Sf 0) h9 a9 b9 p9 o9))) (S := Nat → Nat → Nat) (fun _ => some (.int (nI 0))) (fun _ => True) (fun u => OUTW κ oa (vp_updL fo 0 (((nI (psS n σ (65 + 5 * b + 2)))).toInt64)) ++ (SW κ Sf u ++ (SW κ Sa g ++ RC ra (Sa 0) (Sf 0) h9 a9 b9 p9 o9))) 0 0 := by
  refine zH_of (cc := cL_blockAfter) (maxL := 5) (rt := some .int) (hh := [(0, 10, 13, 19), (0, 10, 17, 21)]) [(0, .ref (ra)), (1, .int (nI b)), (2, .int (nI n)), (3, .ref (oa))] (by decide +kernel) rfl (Nat.le_of_ble_eq_true rfl) rfl ?_
  intro p e s m args below meth c A C hr9 hk htab hX
  have C : zC p s m args c cL_blockAfter 5 wsL_blockAfter RL D (zTy κ) A := C
  refine z_aload_n C dL_blockAfter_0 3 rfl ?_
  refine z_iconst (v := nI 0) C dL_blockAfter_1 (by decide) ?_
  refine z_aload_n C dL_blockAfter_2 0 rfl ?_
  refine z_iload_n C dL_blockAfter_3 1 rfl ?_
  refine z_iload_n C dL_blockAfter_4 2 rfl ?_
  refine z_callV C (mX5_blockAfter_ok l D κ Sf Sa f g ra h9 a9 b9 p9 o9 σ M b n hr hv hb hn hM) gL_blockAfter_X5_blockAfter rfl rfl rfl hdX5_blockAfter ⟨(Nat.le_of_ble_eq_true rfl), (Nat.le_of_ble_eq_true rfl)⟩ 26 rfl rfl (OUTW κ oa fo) (fun u => OUTW κ oa fo ++ (SW κ Sf u ++ (SW κ Sa g ++ RC ra (Sa 0) (Sf 0) h9 a9 b9 p9 o9))) List.perm_append_comm (fun _ => List.perm_append_comm) rfl (Nat.le_of_ble_eq_true rfl) dL_blockAfter_5 ⟨(Nat.le_of_ble_eq_true rfl), (Nat.le_of_ble_eq_true rfl)⟩ (fun u hu => ?_)
  refine z_i2l C dL_blockAfter_8 rfl ?_
  refine z_last C 0 4 rfl rfl (i := 0) (by decide) (by decide) dL_blockAfter_9 (OUTW κ oa (vp_updL fo 0 (((nI (psS n σ (65 + 5 * b + 2)))).toInt64)) ++ (SW κ Sf u ++ (SW κ Sa g ++ RC ra (Sa 0) (Sf 0) h9 a9 b9 p9 o9))) rfl ?_
  refine z_goto (tgt := 21) C dL_blockAfter_10 (by decide) ?_
  refine z_iconst (v := nI 0) C dL_blockAfter_21 (by decide) ?_
  exact zh_iret C hr9 hk u rfl hu (List.Perm.of_eq rfl) dL_blockAfter_22 (Nat.le_of_ble_eq_true rfl) (Nat.le_of_ble_eq_true rfl)
theorem hdL_blockAfter : yL_blockAfter.cls ≠ "java/lang/invoke/MethodHandle" ∧ yL_blockAfter.cls ≠ "java/lang/invoke/VarHandle" ∧ (parseMethodDescriptor yL_blockAfter.desc).map (fun d => d.parameters.length) = some 4 := by decide +kernel
set_option maxRecDepth 100000 in
set_option maxHeartbeats 4000000 in
theorem mL_blockAfter_no (l : Launch) (D : va_G) (κ : Nat → ClassId) (adK adV : Nat → Nat) (Sf Sa : Nat → Nat) (f g : Nat → Nat → Nat) (ra h9 a9 b9 p9 o9 : Nat) (σ : Nat → Nat) (M : Nat) (x y : Int32) (hls : l.stackTraces = false) (hr : Rep g σ) (hv : Inv M σ) (hx : isB (σ 2) x = false) (oa : Nat) (fo : Nat → Int64) : zH (aX adK adV) l yL_blockAfter wsL_blockAfter { frames := 8, cells := 1, slots := 6, locals := 125 } D (zTy κ) [.ref (ra), .int (x), .int (y), .ref oa] (OUTW κ oa fo ++ (SW κ Sf f ++ (SW κ Sa g ++ (RC ra (Sa 0) (Sf 0) h9 a9 b9 p9 o9)))) (S := Unit) (fun _ => some (.int (nI 1))) (fun _ => True) (fun _ => OUTW κ oa fo ++ (SW κ Sf f ++ (SW κ Sa g ++ (RC ra (Sa 0) (Sf 0) h9 a9 b9 p9 o9)))) 1 6 := by
  refine zH_of (cc := cL_blockAfter) (maxL := 5) (rt := some .int) (hh := [(0, 10, 13, 19), (0, 10, 17, 21)]) [(0, .ref (ra)), (1, .int (x)), (2, .int (y)), (3, .ref (oa))] (by decide +kernel) rfl (Nat.le_of_ble_eq_true rfl) rfl ?_
  intro p e s m args below meth c A C hr9 hk htab hX
  have C : zC p s m args c cL_blockAfter 5 wsL_blockAfter RL D (zTy κ) A := C
  refine z_aload_n C dL_blockAfter_0 3 rfl ?_
  refine z_iconst (v := nI 0) C dL_blockAfter_1 (by decide) ?_
  refine z_aload_n C dL_blockAfter_2 0 rfl ?_
  refine z_iload_n C dL_blockAfter_3 1 rfl ?_
  refine z_iload_n C dL_blockAfter_4 2 rfl ?_
  refine zx_catchV C (aX_ok adK adV) hX (mX5_blockAfter_no l D κ adK adV Sf Sa f g ra h9 a9 b9 p9 o9 σ M x y hls hr hv hx) gL_blockAfter_X5_blockAfter rfl rfl rfl hdX5_blockAfter ⟨(Nat.le_of_ble_eq_true rfl), (Nat.le_of_ble_eq_true rfl)⟩ 26 rfl rfl (OUTW κ oa fo) (fun _ => OUTW κ oa fo ++ (SW κ Sf f ++ (SW κ Sa g ++ (RC ra (Sa 0) (Sf 0) h9 a9 b9 p9 o9)))) List.perm_append_comm (fun _ => List.perm_append_comm) rfl (Nat.le_of_ble_eq_true rfl) dL_blockAfter_5 ⟨(Nat.le_of_ble_eq_true rfl), (Nat.le_of_ble_eq_true rfl)⟩ [] ⟨0, 10, 13, 19⟩ [⟨0, 10, 17, 21⟩] htab (fun z hz => absurd hz List.not_mem_nil) (by decide) (by decide) (name := eIB) (show Cond.classLink RL 19 eIB ∈ wsL_blockAfter from by decide +kernel) (hX.2.2.1 _ (by simp [nCs])) (fun u q hu => ?_)
  refine z_astore C [(4, .ref (q)), (0, .ref (ra)), (1, .int (x)), (2, .int (y)), (3, .ref (oa))] dL_blockAfter_13 (by decide) rfl ?_
  refine z_iconst (v := nI 1) C dL_blockAfter_15 (by decide) ?_
  exact zh_iret C hr9 hk u rfl hu (List.Perm.of_eq rfl) dL_blockAfter_16 (Nat.le_of_ble_eq_true rfl) (Nat.le_of_ble_eq_true rfl)
set_option maxRecDepth 100000 in
set_option maxHeartbeats 4000000 in
theorem mL_blockAfter_rng (l : Launch) (D : va_G) (κ : Nat → ClassId) (adK adV : Nat → Nat) (Sf Sa : Nat → Nat) (f g : Nat → Nat → Nat) (ra h9 a9 b9 p9 o9 : Nat) (σ : Nat → Nat) (M : Nat) (b : Nat) (x : Int32) (hls : l.stackTraces = false) (hr : Rep g σ) (hv : Inv M σ) (hb : b < σ 2) (hx : inI x (nI 0) (nI 200) = false) (oa : Nat) (fo : Nat → Int64) : zH (aX adK adV) l yL_blockAfter wsL_blockAfter { frames := 7, cells := 1, slots := 6, locals := 125 } D (zTy κ) [.ref (ra), .int (nI b), .int (x), .ref oa] (OUTW κ oa fo ++ (SW κ Sf f ++ (SW κ Sa g ++ (RC ra (Sa 0) (Sf 0) h9 a9 b9 p9 o9)))) (S := Unit) (fun _ => some (.int (nI 2))) (fun _ => True) (fun _ => OUTW κ oa fo ++ (SW κ Sf f ++ (SW κ Sa g ++ (RC ra (Sa 0) (Sf 0) h9 a9 b9 p9 o9)))) 1 6 := by
  refine zH_of (cc := cL_blockAfter) (maxL := 5) (rt := some .int) (hh := [(0, 10, 13, 19), (0, 10, 17, 21)]) [(0, .ref (ra)), (1, .int (nI b)), (2, .int (x)), (3, .ref (oa))] (by decide +kernel) rfl (Nat.le_of_ble_eq_true rfl) rfl ?_
  intro p e s m args below meth c A C hr9 hk htab hX
  have C : zC p s m args c cL_blockAfter 5 wsL_blockAfter RL D (zTy κ) A := C
  refine z_aload_n C dL_blockAfter_0 3 rfl ?_
  refine z_iconst (v := nI 0) C dL_blockAfter_1 (by decide) ?_
  refine z_aload_n C dL_blockAfter_2 0 rfl ?_
  refine z_iload_n C dL_blockAfter_3 1 rfl ?_
  refine z_iload_n C dL_blockAfter_4 2 rfl ?_
  refine zx_catchV C (aX_ok adK adV) hX (mX5_blockAfter_rng l D κ adK adV Sf Sa f g ra h9 a9 b9 p9 o9 σ M b x hls hr hv hb hx) gL_blockAfter_X5_blockAfter rfl rfl rfl hdX5_blockAfter ⟨(Nat.le_of_ble_eq_true rfl), (Nat.le_of_ble_eq_true rfl)⟩ 26 rfl rfl (OUTW κ oa fo) (fun _ => OUTW κ oa fo ++ (SW κ Sf f ++ (SW κ Sa g ++ (RC ra (Sa 0) (Sf 0) h9 a9 b9 p9 o9)))) List.perm_append_comm (fun _ => List.perm_append_comm) rfl (Nat.le_of_ble_eq_true rfl) dL_blockAfter_5 ⟨(Nat.le_of_ble_eq_true rfl), (Nat.le_of_ble_eq_true rfl)⟩ [⟨0, 10, 13, 19⟩] ⟨0, 10, 17, 21⟩ [] htab (fun z hz => by
      simp only [List.mem_cons, List.not_mem_nil, or_false] at hz
      rcases hz with rfl
      · exact Or.inr ⟨by decide, eIB, by decide +kernel, hX.2.2.2.1 (eIA, eIB) (by simp [nNs])⟩) (by decide) (by decide) (name := eIA) (show Cond.classLink RL 21 eIA ∈ wsL_blockAfter from by decide +kernel) (hX.2.2.1 _ (by simp [nCs])) (fun u q hu => ?_)
  refine z_astore C [(4, .ref (q)), (0, .ref (ra)), (1, .int (nI b)), (2, .int (x)), (3, .ref (oa))] dL_blockAfter_17 (by decide) rfl ?_
  refine z_iconst (v := nI 2) C dL_blockAfter_19 (by decide) ?_
  exact zh_iret C hr9 hk u rfl hu (List.Perm.of_eq rfl) dL_blockAfter_20 (Nat.le_of_ble_eq_true rfl) (Nat.le_of_ble_eq_true rfl)
set_option maxRecDepth 100000 in
set_option maxHeartbeats 4000000 in
theorem mL_ticksUntilWait_ok (l : Launch) (D : va_G) (κ : Nat → ClassId) (Sf Sa : Nat → Nat) (f g : Nat → Nat → Nat) (ra h9 a9 b9 p9 o9 : Nat) (σ : Nat → Nat) (M : Nat) (b : Nat) (hr : Rep g σ) (hv : Inv M σ) (hb : b < σ 2) (hM : M + 2300 < 1073741824) (adK adV : Nat → Nat) (oa : Nat) (fo : Nat → Int64) : zH (aX adK adV) l yL_ticksUntilWait wsL_ticksUntilWait { frames := 5, cells := 0, slots := 0, locals := 114 } D (zTy κ) [.ref ra, .int (nI b), .ref oa] (OUTW κ oa fo ++ (SW κ Sf f ++ (SW κ Sa g ++ RC ra (Sa 0) (Sf 0) h9 a9 b9 p9 o9))) (S := Nat → Nat → Nat) (fun _ => some (.int (nI 0))) (fun _ => True) (fun u => OUTW κ oa (vp_updL fo 0 (((tI (wtT σ b))).toInt64)) ++ (SW κ Sf u ++ (SW κ Sa g ++ RC ra (Sa 0) (Sf 0) h9 a9 b9 p9 o9))) 0 0 := by
  refine zH_of (cc := cL_ticksUntilWait) (maxL := 4) (rt := some .int) (hh := [(0, 9, 12, 19)]) [(0, .ref (ra)), (1, .int (nI b)), (2, .ref (oa))] (by decide +kernel) rfl (Nat.le_of_ble_eq_true rfl) rfl ?_
  intro p e s m args below meth c A C hr9 hk htab hX
  have C : zC p s m args c cL_ticksUntilWait 4 wsL_ticksUntilWait RL D (zTy κ) A := C
  refine z_aload_n C dL_ticksUntilWait_0 2 rfl ?_
  refine z_iconst (v := nI 0) C dL_ticksUntilWait_1 (by decide) ?_
  refine z_aload_n C dL_ticksUntilWait_2 0 rfl ?_
  refine z_iload_n C dL_ticksUntilWait_3 1 rfl ?_
  refine z_callV C (mX5_ticksUntilWait_ok l D κ Sf Sa f g ra h9 a9 b9 p9 o9 σ M b hr hv hb hM) gL_ticksUntilWait_X5_ticksUntilWait rfl rfl rfl hdX5_ticksUntilWait ⟨(Nat.le_of_ble_eq_true rfl), (Nat.le_of_ble_eq_true rfl)⟩ 26 rfl rfl (OUTW κ oa fo) (fun u => OUTW κ oa fo ++ (SW κ Sf u ++ (SW κ Sa g ++ RC ra (Sa 0) (Sf 0) h9 a9 b9 p9 o9))) List.perm_append_comm (fun _ => List.perm_append_comm) rfl (Nat.le_of_ble_eq_true rfl) dL_ticksUntilWait_4 ⟨(Nat.le_of_ble_eq_true rfl), (Nat.le_of_ble_eq_true rfl)⟩ (fun u hu => ?_)
  refine z_i2l C dL_ticksUntilWait_7 rfl ?_
  refine z_last C 0 4 rfl rfl (i := 0) (by decide) (by decide) dL_ticksUntilWait_8 (OUTW κ oa (vp_updL fo 0 (((tI (wtT σ b))).toInt64)) ++ (SW κ Sf u ++ (SW κ Sa g ++ RC ra (Sa 0) (Sf 0) h9 a9 b9 p9 o9))) rfl ?_
  refine z_goto (tgt := 15) C dL_ticksUntilWait_9 (by decide) ?_
  refine z_iconst (v := nI 0) C dL_ticksUntilWait_15 (by decide) ?_
  exact zh_iret C hr9 hk u rfl hu (List.Perm.of_eq rfl) dL_ticksUntilWait_16 (Nat.le_of_ble_eq_true rfl) (Nat.le_of_ble_eq_true rfl)
theorem hdL_ticksUntilWait : yL_ticksUntilWait.cls ≠ "java/lang/invoke/MethodHandle" ∧ yL_ticksUntilWait.cls ≠ "java/lang/invoke/VarHandle" ∧ (parseMethodDescriptor yL_ticksUntilWait.desc).map (fun d => d.parameters.length) = some 3 := by decide +kernel
set_option maxRecDepth 100000 in
set_option maxHeartbeats 4000000 in
theorem mL_ticksUntilWait_no (l : Launch) (D : va_G) (κ : Nat → ClassId) (adK adV : Nat → Nat) (Sf Sa : Nat → Nat) (f g : Nat → Nat → Nat) (ra h9 a9 b9 p9 o9 : Nat) (σ : Nat → Nat) (M : Nat) (x : Int32) (hls : l.stackTraces = false) (hr : Rep g σ) (hv : Inv M σ) (hx : isB (σ 2) x = false) (oa : Nat) (fo : Nat → Int64) : zH (aX adK adV) l yL_ticksUntilWait wsL_ticksUntilWait { frames := 8, cells := 1, slots := 6, locals := 125 } D (zTy κ) [.ref (ra), .int (x), .ref oa] (OUTW κ oa fo ++ (SW κ Sf f ++ (SW κ Sa g ++ (RC ra (Sa 0) (Sf 0) h9 a9 b9 p9 o9)))) (S := Unit) (fun _ => some (.int (nI 1))) (fun _ => True) (fun _ => OUTW κ oa fo ++ (SW κ Sf f ++ (SW κ Sa g ++ (RC ra (Sa 0) (Sf 0) h9 a9 b9 p9 o9)))) 1 6 := by
  refine zH_of (cc := cL_ticksUntilWait) (maxL := 4) (rt := some .int) (hh := [(0, 9, 12, 19)]) [(0, .ref (ra)), (1, .int (x)), (2, .ref (oa))] (by decide +kernel) rfl (Nat.le_of_ble_eq_true rfl) rfl ?_
  intro p e s m args below meth c A C hr9 hk htab hX
  have C : zC p s m args c cL_ticksUntilWait 4 wsL_ticksUntilWait RL D (zTy κ) A := C
  refine z_aload_n C dL_ticksUntilWait_0 2 rfl ?_
  refine z_iconst (v := nI 0) C dL_ticksUntilWait_1 (by decide) ?_
  refine z_aload_n C dL_ticksUntilWait_2 0 rfl ?_
  refine z_iload_n C dL_ticksUntilWait_3 1 rfl ?_
  refine zx_catchV C (aX_ok adK adV) hX (mX5_ticksUntilWait_no l D κ adK adV Sf Sa f g ra h9 a9 b9 p9 o9 σ M x hls hr hv hx) gL_ticksUntilWait_X5_ticksUntilWait rfl rfl rfl hdX5_ticksUntilWait ⟨(Nat.le_of_ble_eq_true rfl), (Nat.le_of_ble_eq_true rfl)⟩ 26 rfl rfl (OUTW κ oa fo) (fun _ => OUTW κ oa fo ++ (SW κ Sf f ++ (SW κ Sa g ++ (RC ra (Sa 0) (Sf 0) h9 a9 b9 p9 o9)))) List.perm_append_comm (fun _ => List.perm_append_comm) rfl (Nat.le_of_ble_eq_true rfl) dL_ticksUntilWait_4 ⟨(Nat.le_of_ble_eq_true rfl), (Nat.le_of_ble_eq_true rfl)⟩ [] ⟨0, 9, 12, 19⟩ [] htab (fun z hz => absurd hz List.not_mem_nil) (by decide) (by decide) (name := eIB) (show Cond.classLink RL 19 eIB ∈ wsL_ticksUntilWait from by decide +kernel) (hX.2.2.1 _ (by simp [nCs])) (fun u q hu => ?_)
  refine z_astore_n C [(3, .ref (q)), (0, .ref (ra)), (1, .int (x)), (2, .ref (oa))] dL_ticksUntilWait_12 (by decide) rfl ?_
  refine z_iconst (v := nI 1) C dL_ticksUntilWait_13 (by decide) ?_
  exact zh_iret C hr9 hk u rfl hu (List.Perm.of_eq rfl) dL_ticksUntilWait_14 (Nat.le_of_ble_eq_true rfl) (Nat.le_of_ble_eq_true rfl)
set_option maxRecDepth 100000 in
set_option maxHeartbeats 4000000 in
theorem mL_advance_ok (l : Launch) (D : va_G) (κ : Nat → ClassId) (Sa Ha : Nat → Nat) (Hs : Nat → Nat → Nat) (hf : Nat → Option Nat) (ra f9 a9 b9 p9 o9 : Nat) (g : Nat → Nat → Nat) (nx ct : Nat) (gh : Nat → Nat → Nat → Nat) (σ : Nat → Nat) (M : Nat) (n : Nat) (hr : Rep g σ) (hv : Inv M σ) (hhf : ∀ j, j < 10 → hf j = some (Hs j 0)) (hnx : nx < 10) (hct : ct ≤ 10) (h1n : 1 ≤ n) (h2n : n ≤ 99) (hl : σ 0 + n ≤ 9999) (hM : M + 11 * n + 11 < 1073741824) (adK adV : Nat → Nat) (oa : Nat) (fo : Nat → Int64) : zH (aX adK adV) l yL_advance wsL_advance { frames := 5, cells := 0, slots := 0, locals := 113 } D (zTy κ) [.ref ra, .int (nI n), .ref oa] (OUTW κ oa fo ++ (kW κ Sa Ha Hs hf ra f9 a9 b9 p9 o9 g nx ct gh)) (S := (Nat → Nat → Nat) × (Nat → Nat → Nat)) (fun _ => some (.int (nI 0))) (fun u => Rep u.1 σ ∧ Rep u.2 (psS n σ)) (fun u => OUTW κ oa (vp_updL fo 0 (((nI (psE n σ))).toInt64)) ++ (kW κ Sa Ha Hs hf ra f9 a9 b9 p9 o9 u.2 (fwN nx) (mnN ct) (upS gh nx u.1))) 0 0 := by
  refine zH_of (cc := cL_advance) (maxL := 4) (rt := some .int) (hh := [(0, 9, 12, 21), (0, 9, 15, 13)]) [(0, .ref (ra)), (1, .int (nI n)), (2, .ref (oa))] (by decide +kernel) rfl (Nat.le_of_ble_eq_true rfl) rfl ?_
  intro p e s m args below meth c A C hr9 hk htab hX
  have C : zC p s m args c cL_advance 4 wsL_advance RL D (zTy κ) A := C
  refine z_aload_n C dL_advance_0 2 rfl ?_
  refine z_iconst (v := nI 0) C dL_advance_1 (by decide) ?_
  refine z_aload_n C dL_advance_2 0 rfl ?_
  refine z_iload_n C dL_advance_3 1 rfl ?_
  refine z_callV C (mX5_advance_ok l D κ Sa Ha Hs hf ra f9 a9 b9 p9 o9 g nx ct gh σ M n hr hv hhf hnx hct h1n h2n hl hM) gL_advance_X5_advance rfl rfl rfl hdX5_advance ⟨(Nat.le_of_ble_eq_true rfl), (Nat.le_of_ble_eq_true rfl)⟩ 13 rfl rfl (OUTW κ oa fo) (fun u => OUTW κ oa fo ++ (kW κ Sa Ha Hs hf ra f9 a9 b9 p9 o9 u.2 (fwN nx) (mnN ct) (upS gh nx u.1))) List.perm_append_comm (fun _ => List.perm_append_comm) rfl (Nat.le_of_ble_eq_true rfl) dL_advance_4 ⟨(Nat.le_of_ble_eq_true rfl), (Nat.le_of_ble_eq_true rfl)⟩ (fun u hu => ?_)
  refine z_i2l C dL_advance_7 rfl ?_
  refine z_last C 0 4 rfl rfl (i := 0) (by decide) (by decide) dL_advance_8 (OUTW κ oa (vp_updL fo 0 (((nI (psE n σ))).toInt64)) ++ (kW κ Sa Ha Hs hf ra f9 a9 b9 p9 o9 u.2 (fwN nx) (mnN ct) (upS gh nx u.1))) rfl ?_
  refine z_goto (tgt := 18) C dL_advance_9 (by decide) ?_
  refine z_iconst (v := nI 0) C dL_advance_18 (by decide) ?_
  exact zh_iret C hr9 hk u rfl hu (List.Perm.of_eq rfl) dL_advance_19 (Nat.le_of_ble_eq_true rfl) (Nat.le_of_ble_eq_true rfl)
theorem hdL_advance : yL_advance.cls ≠ "java/lang/invoke/MethodHandle" ∧ yL_advance.cls ≠ "java/lang/invoke/VarHandle" ∧ (parseMethodDescriptor yL_advance.desc).map (fun d => d.parameters.length) = some 3 := by decide +kernel
set_option maxRecDepth 100000 in
set_option maxHeartbeats 4000000 in
theorem mL_advance_no (l : Launch) (D : va_G) (κ : Nat → ClassId) (adK adV : Nat → Nat) (Sa : Nat → Nat) (g : Nat → Nat → Nat) (ra f9 h9 a9 b9 p9 o9 : Nat) (σ : Nat → Nat) (M : Nat) (x : Int32) (hls : l.stackTraces = false) (hr : Rep g σ) (hv : Inv M σ) (hx : inI x (nI 1) (nI 99) = false) (oa : Nat) (fo : Nat → Int64) : zH (aX adK adV) l yL_advance wsL_advance { frames := 7, cells := 1, slots := 6, locals := 124 } D (zTy κ) [.ref (ra), .int (x), .ref oa] (OUTW κ oa fo ++ (SW κ Sa g ++ (RC ra (Sa 0) f9 h9 a9 b9 p9 o9))) (S := Unit) (fun _ => some (.int (nI 1))) (fun _ => True) (fun _ => OUTW κ oa fo ++ (SW κ Sa g ++ (RC ra (Sa 0) f9 h9 a9 b9 p9 o9))) 1 6 := by
  refine zH_of (cc := cL_advance) (maxL := 4) (rt := some .int) (hh := [(0, 9, 12, 21), (0, 9, 15, 13)]) [(0, .ref (ra)), (1, .int (x)), (2, .ref (oa))] (by decide +kernel) rfl (Nat.le_of_ble_eq_true rfl) rfl ?_
  intro p e s m args below meth c A C hr9 hk htab hX
  have C : zC p s m args c cL_advance 4 wsL_advance RL D (zTy κ) A := C
  refine z_aload_n C dL_advance_0 2 rfl ?_
  refine z_iconst (v := nI 0) C dL_advance_1 (by decide) ?_
  refine z_aload_n C dL_advance_2 0 rfl ?_
  refine z_iload_n C dL_advance_3 1 rfl ?_
  refine zx_catchV C (aX_ok adK adV) hX (mX5_advance_no l D κ adK adV Sa g ra f9 h9 a9 b9 p9 o9 σ M x hls hr hv hx) gL_advance_X5_advance rfl rfl rfl hdX5_advance ⟨(Nat.le_of_ble_eq_true rfl), (Nat.le_of_ble_eq_true rfl)⟩ 13 rfl rfl (OUTW κ oa fo) (fun _ => OUTW κ oa fo ++ (SW κ Sa g ++ (RC ra (Sa 0) f9 h9 a9 b9 p9 o9))) List.perm_append_comm (fun _ => List.perm_append_comm) rfl (Nat.le_of_ble_eq_true rfl) dL_advance_4 ⟨(Nat.le_of_ble_eq_true rfl), (Nat.le_of_ble_eq_true rfl)⟩ [] ⟨0, 9, 12, 21⟩ [⟨0, 9, 15, 13⟩] htab (fun z hz => absurd hz List.not_mem_nil) (by decide) (by decide) (name := eIA) (show Cond.classLink RL 21 eIA ∈ wsL_advance from by decide +kernel) (hX.2.2.1 _ (by simp [nCs])) (fun u q hu => ?_)
  refine z_astore_n C [(3, .ref (q)), (0, .ref (ra)), (1, .int (x)), (2, .ref (oa))] dL_advance_12 (by decide) rfl ?_
  refine z_iconst (v := nI 1) C dL_advance_13 (by decide) ?_
  exact zh_iret C hr9 hk u rfl hu (List.Perm.of_eq rfl) dL_advance_14 (Nat.le_of_ble_eq_true rfl) (Nat.le_of_ble_eq_true rfl)
set_option maxRecDepth 100000 in
set_option maxHeartbeats 4000000 in
theorem mL_advance_lim (l : Launch) (D : va_G) (κ : Nat → ClassId) (adK adV : Nat → Nat) (Sa : Nat → Nat) (g : Nat → Nat → Nat) (ra f9 h9 a9 b9 p9 o9 : Nat) (σ : Nat → Nat) (M : Nat) (n : Nat) (hls : l.stackTraces = false) (hr : Rep g σ) (hv : Inv M σ) (h1n : 1 ≤ n) (h2n : n ≤ 99) (h0 : σ 0 ≤ 9999) (hl : 9999 < σ 0 + n) (oa : Nat) (fo : Nat → Int64) : zH (aX adK adV) l yL_advance wsL_advance { frames := 7, cells := 1, slots := 6, locals := 124 } D (zTy κ) [.ref (ra), .int (nI n), .ref oa] (OUTW κ oa fo ++ (SW κ Sa g ++ (RC ra (Sa 0) f9 h9 a9 b9 p9 o9))) (S := Unit) (fun _ => some (.int (nI 2))) (fun _ => True) (fun _ => OUTW κ oa fo ++ (SW κ Sa g ++ (RC ra (Sa 0) f9 h9 a9 b9 p9 o9))) 1 6 := by
  refine zH_of (cc := cL_advance) (maxL := 4) (rt := some .int) (hh := [(0, 9, 12, 21), (0, 9, 15, 13)]) [(0, .ref (ra)), (1, .int (nI n)), (2, .ref (oa))] (by decide +kernel) rfl (Nat.le_of_ble_eq_true rfl) rfl ?_
  intro p e s m args below meth c A C hr9 hk htab hX
  have C : zC p s m args c cL_advance 4 wsL_advance RL D (zTy κ) A := C
  refine z_aload_n C dL_advance_0 2 rfl ?_
  refine z_iconst (v := nI 0) C dL_advance_1 (by decide) ?_
  refine z_aload_n C dL_advance_2 0 rfl ?_
  refine z_iload_n C dL_advance_3 1 rfl ?_
  refine zx_catchV C (aX_ok adK adV) hX (mX5_advance_lim l D κ adK adV Sa g ra f9 h9 a9 b9 p9 o9 σ M n hls hr hv h1n h2n h0 hl) gL_advance_X5_advance rfl rfl rfl hdX5_advance ⟨(Nat.le_of_ble_eq_true rfl), (Nat.le_of_ble_eq_true rfl)⟩ 13 rfl rfl (OUTW κ oa fo) (fun _ => OUTW κ oa fo ++ (SW κ Sa g ++ (RC ra (Sa 0) f9 h9 a9 b9 p9 o9))) List.perm_append_comm (fun _ => List.perm_append_comm) rfl (Nat.le_of_ble_eq_true rfl) dL_advance_4 ⟨(Nat.le_of_ble_eq_true rfl), (Nat.le_of_ble_eq_true rfl)⟩ [⟨0, 9, 12, 21⟩] ⟨0, 9, 15, 13⟩ [] htab (fun z hz => by
      simp only [List.mem_cons, List.not_mem_nil, or_false] at hz
      rcases hz with rfl
      · exact Or.inr ⟨by decide, eIA, by decide +kernel, hX.2.2.2.1 (eIS, eIA) (by simp [nNs])⟩) (by decide) (by decide) (name := eIS) (show Cond.classLink RL 13 eIS ∈ wsL_advance from by decide +kernel) (hX.2.2.1 _ (by simp [nCs])) (fun u q hu => ?_)
  refine z_astore_n C [(3, .ref (q)), (0, .ref (ra)), (1, .int (nI n)), (2, .ref (oa))] dL_advance_15 (by decide) rfl ?_
  refine z_iconst (v := nI 2) C dL_advance_16 (by decide) ?_
  exact zh_iret C hr9 hk u rfl hu (List.Perm.of_eq rfl) dL_advance_17 (Nat.le_of_ble_eq_true rfl) (Nat.le_of_ble_eq_true rfl)
set_option maxRecDepth 100000 in
set_option maxHeartbeats 4000000 in
theorem mL_pull_ok (l : Launch) (D : va_G) (κ : Nat → ClassId) (Sa Ha : Nat → Nat) (Hs : Nat → Nat → Nat) (hf : Nat → Option Nat) (ra f9 a9 b9 p9 o9 : Nat) (g : Nat → Nat → Nat) (nx ct : Nat) (gh : Nat → Nat → Nat → Nat) (σ : Nat → Nat) (M : Nat) (b : Nat) (hr : Rep g σ) (hv : Inv M σ) (hhf : ∀ j, j < 10 → hf j = some (Hs j 0)) (hnx : nx < 10) (hct : ct ≤ 10) (hb : b < σ 1) (h0 : rsn σ b = 0) (adK adV : Nat → Nat) (oa : Nat) (fo : Nat → Int64) : zH (aX adK adV) l yL_pull wsL_pull { frames := 4, cells := 0, slots := 0, locals := 91 } D (zTy κ) [.ref ra, .int (nI b), .ref oa] (OUTW κ oa fo ++ (kW κ Sa Ha Hs hf ra f9 a9 b9 p9 o9 g nx ct gh)) (S := (Nat → Nat → Nat) × (Nat → Nat → Nat)) (fun _ => some (.int (nI 0))) (fun u => Rep u.1 σ ∧ Rep u.2 (upN σ (5 + 6 * b + 4) 1)) (fun u => OUTW κ oa (vp_updL fo 0 (((nI (sumL (fun i => upN σ (5 + 6 * b + 4) 1 (5 + 6 * i + 4)) (upN σ (5 + 6 * b + 4) 1 1)))).toInt64)) ++ (kW κ Sa Ha Hs hf ra f9 a9 b9 p9 o9 u.2 (fwN nx) (mnN ct) (upS gh nx u.1))) 0 0 := by
  refine zH_of (cc := cL_pull) (maxL := 4) (rt := some .int) (hh := [(0, 9, 12, 19), (0, 9, 15, 13)]) [(0, .ref (ra)), (1, .int (nI b)), (2, .ref (oa))] (by decide +kernel) rfl (Nat.le_of_ble_eq_true rfl) rfl ?_
  intro p e s m args below meth c A C hr9 hk htab hX
  have C : zC p s m args c cL_pull 4 wsL_pull RL D (zTy κ) A := C
  refine z_aload_n C dL_pull_0 2 rfl ?_
  refine z_iconst (v := nI 0) C dL_pull_1 (by decide) ?_
  refine z_aload_n C dL_pull_2 0 rfl ?_
  refine z_iload_n C dL_pull_3 1 rfl ?_
  refine z_callV C (mX5_pull_ok l D κ Sa Ha Hs hf ra f9 a9 b9 p9 o9 g nx ct gh σ M b hr hv hhf hnx hct hb h0) gL_pull_X5_pull rfl rfl rfl hdX5_pull ⟨(Nat.le_of_ble_eq_true rfl), (Nat.le_of_ble_eq_true rfl)⟩ 13 rfl rfl (OUTW κ oa fo) (fun u => OUTW κ oa fo ++ (kW κ Sa Ha Hs hf ra f9 a9 b9 p9 o9 u.2 (fwN nx) (mnN ct) (upS gh nx u.1))) List.perm_append_comm (fun _ => List.perm_append_comm) rfl (Nat.le_of_ble_eq_true rfl) dL_pull_4 ⟨(Nat.le_of_ble_eq_true rfl), (Nat.le_of_ble_eq_true rfl)⟩ (fun u hu => ?_)
  refine z_i2l C dL_pull_7 rfl ?_
  refine z_last C 0 4 rfl rfl (i := 0) (by decide) (by decide) dL_pull_8 (OUTW κ oa (vp_updL fo 0 (((nI (sumL (fun i => upN σ (5 + 6 * b + 4) 1 (5 + 6 * i + 4)) (upN σ (5 + 6 * b + 4) 1 1)))).toInt64)) ++ (kW κ Sa Ha Hs hf ra f9 a9 b9 p9 o9 u.2 (fwN nx) (mnN ct) (upS gh nx u.1))) rfl ?_
  refine z_goto (tgt := 18) C dL_pull_9 (by decide) ?_
  refine z_iconst (v := nI 0) C dL_pull_18 (by decide) ?_
  exact zh_iret C hr9 hk u rfl hu (List.Perm.of_eq rfl) dL_pull_19 (Nat.le_of_ble_eq_true rfl) (Nat.le_of_ble_eq_true rfl)
theorem hdL_pull : yL_pull.cls ≠ "java/lang/invoke/MethodHandle" ∧ yL_pull.cls ≠ "java/lang/invoke/VarHandle" ∧ (parseMethodDescriptor yL_pull.desc).map (fun d => d.parameters.length) = some 3 := by decide +kernel
set_option maxRecDepth 100000 in
set_option maxHeartbeats 4000000 in
theorem mL_pull_no (l : Launch) (D : va_G) (κ : Nat → ClassId) (adK adV : Nat → Nat) (Sa : Nat → Nat) (g : Nat → Nat → Nat) (ra f9 h9 a9 b9 p9 o9 : Nat) (σ : Nat → Nat) (M : Nat) (x : Int32) (hls : l.stackTraces = false) (hr : Rep g σ) (hv : Inv M σ) (hx : isB (σ 1) x = false) (oa : Nat) (fo : Nat → Int64) : zH (aX adK adV) l yL_pull wsL_pull { frames := 8, cells := 1, slots := 6, locals := 124 } D (zTy κ) [.ref (ra), .int (x), .ref oa] (OUTW κ oa fo ++ (SW κ Sa g ++ (RC ra (Sa 0) f9 h9 a9 b9 p9 o9))) (S := Unit) (fun _ => some (.int (nI 1))) (fun _ => True) (fun _ => OUTW κ oa fo ++ (SW κ Sa g ++ (RC ra (Sa 0) f9 h9 a9 b9 p9 o9))) 1 6 := by
  refine zH_of (cc := cL_pull) (maxL := 4) (rt := some .int) (hh := [(0, 9, 12, 19), (0, 9, 15, 13)]) [(0, .ref (ra)), (1, .int (x)), (2, .ref (oa))] (by decide +kernel) rfl (Nat.le_of_ble_eq_true rfl) rfl ?_
  intro p e s m args below meth c A C hr9 hk htab hX
  have C : zC p s m args c cL_pull 4 wsL_pull RL D (zTy κ) A := C
  refine z_aload_n C dL_pull_0 2 rfl ?_
  refine z_iconst (v := nI 0) C dL_pull_1 (by decide) ?_
  refine z_aload_n C dL_pull_2 0 rfl ?_
  refine z_iload_n C dL_pull_3 1 rfl ?_
  refine zx_catchV C (aX_ok adK adV) hX (mX5_pull_no l D κ adK adV Sa g ra f9 h9 a9 b9 p9 o9 σ M x hls hr hv hx) gL_pull_X5_pull rfl rfl rfl hdX5_pull ⟨(Nat.le_of_ble_eq_true rfl), (Nat.le_of_ble_eq_true rfl)⟩ 13 rfl rfl (OUTW κ oa fo) (fun _ => OUTW κ oa fo ++ (SW κ Sa g ++ (RC ra (Sa 0) f9 h9 a9 b9 p9 o9))) List.perm_append_comm (fun _ => List.perm_append_comm) rfl (Nat.le_of_ble_eq_true rfl) dL_pull_4 ⟨(Nat.le_of_ble_eq_true rfl), (Nat.le_of_ble_eq_true rfl)⟩ [] ⟨0, 9, 12, 19⟩ [⟨0, 9, 15, 13⟩] htab (fun z hz => absurd hz List.not_mem_nil) (by decide) (by decide) (name := eIB) (show Cond.classLink RL 19 eIB ∈ wsL_pull from by decide +kernel) (hX.2.2.1 _ (by simp [nCs])) (fun u q hu => ?_)
  refine z_astore_n C [(3, .ref (q)), (0, .ref (ra)), (1, .int (x)), (2, .ref (oa))] dL_pull_12 (by decide) rfl ?_
  refine z_iconst (v := nI 1) C dL_pull_13 (by decide) ?_
  exact zh_iret C hr9 hk u rfl hu (List.Perm.of_eq rfl) dL_pull_14 (Nat.le_of_ble_eq_true rfl) (Nat.le_of_ble_eq_true rfl)
set_option maxRecDepth 100000 in
set_option maxHeartbeats 4000000 in
theorem mL_pull_bad (l : Launch) (D : va_G) (κ : Nat → ClassId) (adK adV : Nat → Nat) (Sa : Nat → Nat) (g : Nat → Nat → Nat) (ra f9 h9 a9 b9 p9 o9 : Nat) (σ : Nat → Nat) (M : Nat) (b : Nat) (hls : l.stackTraces = false) (hr : Rep g σ) (hv : Inv M σ) (hb : b < σ 1) (h0 : rsn σ b ≠ 0) (oa : Nat) (fo : Nat → Int64) : zH (aX adK adV) l yL_pull wsL_pull { frames := 7, cells := 1, slots := 6, locals := 124 } D (zTy κ) [.ref (ra), .int (nI b), .ref oa] (OUTW κ oa fo ++ (SW κ Sa g ++ (RC ra (Sa 0) f9 h9 a9 b9 p9 o9))) (S := Unit) (fun _ => some (.int (nI 2))) (fun _ => True) (fun _ => OUTW κ oa fo ++ (SW κ Sa g ++ (RC ra (Sa 0) f9 h9 a9 b9 p9 o9))) 1 6 := by
  refine zH_of (cc := cL_pull) (maxL := 4) (rt := some .int) (hh := [(0, 9, 12, 19), (0, 9, 15, 13)]) [(0, .ref (ra)), (1, .int (nI b)), (2, .ref (oa))] (by decide +kernel) rfl (Nat.le_of_ble_eq_true rfl) rfl ?_
  intro p e s m args below meth c A C hr9 hk htab hX
  have C : zC p s m args c cL_pull 4 wsL_pull RL D (zTy κ) A := C
  refine z_aload_n C dL_pull_0 2 rfl ?_
  refine z_iconst (v := nI 0) C dL_pull_1 (by decide) ?_
  refine z_aload_n C dL_pull_2 0 rfl ?_
  refine z_iload_n C dL_pull_3 1 rfl ?_
  refine zx_catchV C (aX_ok adK adV) hX (mX5_pull_bad l D κ adK adV Sa g ra f9 h9 a9 b9 p9 o9 σ M b hls hr hv hb h0) gL_pull_X5_pull rfl rfl rfl hdX5_pull ⟨(Nat.le_of_ble_eq_true rfl), (Nat.le_of_ble_eq_true rfl)⟩ 13 rfl rfl (OUTW κ oa fo) (fun _ => OUTW κ oa fo ++ (SW κ Sa g ++ (RC ra (Sa 0) f9 h9 a9 b9 p9 o9))) List.perm_append_comm (fun _ => List.perm_append_comm) rfl (Nat.le_of_ble_eq_true rfl) dL_pull_4 ⟨(Nat.le_of_ble_eq_true rfl), (Nat.le_of_ble_eq_true rfl)⟩ [⟨0, 9, 12, 19⟩] ⟨0, 9, 15, 13⟩ [] htab (fun z hz => by
      simp only [List.mem_cons, List.not_mem_nil, or_false] at hz
      rcases hz with rfl
      · exact Or.inr ⟨by decide, eIB, by decide +kernel, hX.2.2.2.1 (eIS, eIB) (by simp [nNs])⟩) (by decide) (by decide) (name := eIS) (show Cond.classLink RL 13 eIS ∈ wsL_pull from by decide +kernel) (hX.2.2.1 _ (by simp [nCs])) (fun u q hu => ?_)
  refine z_astore_n C [(3, .ref (q)), (0, .ref (ra)), (1, .int (nI b)), (2, .ref (oa))] dL_pull_15 (by decide) rfl ?_
  refine z_iconst (v := nI 2) C dL_pull_16 (by decide) ?_
  exact zh_iret C hr9 hk u rfl hu (List.Perm.of_eq rfl) dL_pull_17 (Nat.le_of_ble_eq_true rfl) (Nat.le_of_ble_eq_true rfl)
set_option maxRecDepth 100000 in
set_option maxHeartbeats 4000000 in
theorem mL_setDanger_ok (l : Launch) (D : va_G) (κ : Nat → ClassId) (Sa Ha : Nat → Nat) (Hs : Nat → Nat → Nat) (hf : Nat → Option Nat) (ra f9 a9 b9 p9 o9 : Nat) (g : Nat → Nat → Nat) (nx ct : Nat) (gh : Nat → Nat → Nat → Nat) (σ : Nat → Nat) (M : Nat) (b : Nat) (hr : Rep g σ) (hv : Inv M σ) (hhf : ∀ j, j < 10 → hf j = some (Hs j 0)) (hnx : nx < 10) (hct : ct ≤ 10) (hb : b < σ 1) (h0 : 0 < σ (5 + 6 * b + 4)) (adK adV : Nat → Nat) (oa : Nat) (fo : Nat → Int64) : zH (aX adK adV) l yL_setDanger wsL_setDanger { frames := 4, cells := 0, slots := 0, locals := 91 } D (zTy κ) [.ref ra, .int (nI b), .ref oa] (OUTW κ oa fo ++ (kW κ Sa Ha Hs hf ra f9 a9 b9 p9 o9 g nx ct gh)) (S := (Nat → Nat → Nat) × (Nat → Nat → Nat)) (fun _ => some (.int (nI 0))) (fun u => Rep u.1 σ ∧ Rep u.2 (upN σ (5 + 6 * b + 4) 0)) (fun u => OUTW κ oa (vp_updL fo 0 (((nI (sumL (fun i => upN σ (5 + 6 * b + 4) 0 (5 + 6 * i + 4)) (upN σ (5 + 6 * b + 4) 0 1)))).toInt64)) ++ (kW κ Sa Ha Hs hf ra f9 a9 b9 p9 o9 u.2 (fwN nx) (mnN ct) (upS gh nx u.1))) 0 0 := by
  refine zH_of (cc := cL_setDanger) (maxL := 4) (rt := some .int) (hh := [(0, 9, 12, 19), (0, 9, 15, 13)]) [(0, .ref (ra)), (1, .int (nI b)), (2, .ref (oa))] (by decide +kernel) rfl (Nat.le_of_ble_eq_true rfl) rfl ?_
  intro p e s m args below meth c A C hr9 hk htab hX
  have C : zC p s m args c cL_setDanger 4 wsL_setDanger RL D (zTy κ) A := C
  refine z_aload_n C dL_setDanger_0 2 rfl ?_
  refine z_iconst (v := nI 0) C dL_setDanger_1 (by decide) ?_
  refine z_aload_n C dL_setDanger_2 0 rfl ?_
  refine z_iload_n C dL_setDanger_3 1 rfl ?_
  refine z_callV C (mX5_setDanger_ok l D κ Sa Ha Hs hf ra f9 a9 b9 p9 o9 g nx ct gh σ M b hr hv hhf hnx hct hb h0) gL_setDanger_X5_setDanger rfl rfl rfl hdX5_setDanger ⟨(Nat.le_of_ble_eq_true rfl), (Nat.le_of_ble_eq_true rfl)⟩ 13 rfl rfl (OUTW κ oa fo) (fun u => OUTW κ oa fo ++ (kW κ Sa Ha Hs hf ra f9 a9 b9 p9 o9 u.2 (fwN nx) (mnN ct) (upS gh nx u.1))) List.perm_append_comm (fun _ => List.perm_append_comm) rfl (Nat.le_of_ble_eq_true rfl) dL_setDanger_4 ⟨(Nat.le_of_ble_eq_true rfl), (Nat.le_of_ble_eq_true rfl)⟩ (fun u hu => ?_)
  refine z_i2l C dL_setDanger_7 rfl ?_
  refine z_last C 0 4 rfl rfl (i := 0) (by decide) (by decide) dL_setDanger_8 (OUTW κ oa (vp_updL fo 0 (((nI (sumL (fun i => upN σ (5 + 6 * b + 4) 0 (5 + 6 * i + 4)) (upN σ (5 + 6 * b + 4) 0 1)))).toInt64)) ++ (kW κ Sa Ha Hs hf ra f9 a9 b9 p9 o9 u.2 (fwN nx) (mnN ct) (upS gh nx u.1))) rfl ?_
  refine z_goto (tgt := 18) C dL_setDanger_9 (by decide) ?_
  refine z_iconst (v := nI 0) C dL_setDanger_18 (by decide) ?_
  exact zh_iret C hr9 hk u rfl hu (List.Perm.of_eq rfl) dL_setDanger_19 (Nat.le_of_ble_eq_true rfl) (Nat.le_of_ble_eq_true rfl)
theorem hdL_setDanger : yL_setDanger.cls ≠ "java/lang/invoke/MethodHandle" ∧ yL_setDanger.cls ≠ "java/lang/invoke/VarHandle" ∧ (parseMethodDescriptor yL_setDanger.desc).map (fun d => d.parameters.length) = some 3 := by decide +kernel
set_option maxRecDepth 100000 in
set_option maxHeartbeats 4000000 in
theorem mL_setDanger_no (l : Launch) (D : va_G) (κ : Nat → ClassId) (adK adV : Nat → Nat) (Sa : Nat → Nat) (g : Nat → Nat → Nat) (ra f9 h9 a9 b9 p9 o9 : Nat) (σ : Nat → Nat) (M : Nat) (x : Int32) (hls : l.stackTraces = false) (hr : Rep g σ) (hv : Inv M σ) (hx : isB (σ 1) x = false) (oa : Nat) (fo : Nat → Int64) : zH (aX adK adV) l yL_setDanger wsL_setDanger { frames := 8, cells := 1, slots := 6, locals := 124 } D (zTy κ) [.ref (ra), .int (x), .ref oa] (OUTW κ oa fo ++ (SW κ Sa g ++ (RC ra (Sa 0) f9 h9 a9 b9 p9 o9))) (S := Unit) (fun _ => some (.int (nI 1))) (fun _ => True) (fun _ => OUTW κ oa fo ++ (SW κ Sa g ++ (RC ra (Sa 0) f9 h9 a9 b9 p9 o9))) 1 6 := by
  refine zH_of (cc := cL_setDanger) (maxL := 4) (rt := some .int) (hh := [(0, 9, 12, 19), (0, 9, 15, 13)]) [(0, .ref (ra)), (1, .int (x)), (2, .ref (oa))] (by decide +kernel) rfl (Nat.le_of_ble_eq_true rfl) rfl ?_
  intro p e s m args below meth c A C hr9 hk htab hX
  have C : zC p s m args c cL_setDanger 4 wsL_setDanger RL D (zTy κ) A := C
  refine z_aload_n C dL_setDanger_0 2 rfl ?_
  refine z_iconst (v := nI 0) C dL_setDanger_1 (by decide) ?_
  refine z_aload_n C dL_setDanger_2 0 rfl ?_
  refine z_iload_n C dL_setDanger_3 1 rfl ?_
  refine zx_catchV C (aX_ok adK adV) hX (mX5_setDanger_no l D κ adK adV Sa g ra f9 h9 a9 b9 p9 o9 σ M x hls hr hv hx) gL_setDanger_X5_setDanger rfl rfl rfl hdX5_setDanger ⟨(Nat.le_of_ble_eq_true rfl), (Nat.le_of_ble_eq_true rfl)⟩ 13 rfl rfl (OUTW κ oa fo) (fun _ => OUTW κ oa fo ++ (SW κ Sa g ++ (RC ra (Sa 0) f9 h9 a9 b9 p9 o9))) List.perm_append_comm (fun _ => List.perm_append_comm) rfl (Nat.le_of_ble_eq_true rfl) dL_setDanger_4 ⟨(Nat.le_of_ble_eq_true rfl), (Nat.le_of_ble_eq_true rfl)⟩ [] ⟨0, 9, 12, 19⟩ [⟨0, 9, 15, 13⟩] htab (fun z hz => absurd hz List.not_mem_nil) (by decide) (by decide) (name := eIB) (show Cond.classLink RL 19 eIB ∈ wsL_setDanger from by decide +kernel) (hX.2.2.1 _ (by simp [nCs])) (fun u q hu => ?_)
  refine z_astore_n C [(3, .ref (q)), (0, .ref (ra)), (1, .int (x)), (2, .ref (oa))] dL_setDanger_12 (by decide) rfl ?_
  refine z_iconst (v := nI 1) C dL_setDanger_13 (by decide) ?_
  exact zh_iret C hr9 hk u rfl hu (List.Perm.of_eq rfl) dL_setDanger_14 (Nat.le_of_ble_eq_true rfl) (Nat.le_of_ble_eq_true rfl)
set_option maxRecDepth 100000 in
set_option maxHeartbeats 4000000 in
theorem mL_setDanger_bad (l : Launch) (D : va_G) (κ : Nat → ClassId) (adK adV : Nat → Nat) (Sa : Nat → Nat) (g : Nat → Nat → Nat) (ra f9 h9 a9 b9 p9 o9 : Nat) (σ : Nat → Nat) (M : Nat) (b : Nat) (hls : l.stackTraces = false) (hr : Rep g σ) (hv : Inv M σ) (hb : b < σ 1) (h0 : σ (5 + 6 * b + 4) = 0) (oa : Nat) (fo : Nat → Int64) : zH (aX adK adV) l yL_setDanger wsL_setDanger { frames := 7, cells := 1, slots := 6, locals := 124 } D (zTy κ) [.ref (ra), .int (nI b), .ref oa] (OUTW κ oa fo ++ (SW κ Sa g ++ (RC ra (Sa 0) f9 h9 a9 b9 p9 o9))) (S := Unit) (fun _ => some (.int (nI 2))) (fun _ => True) (fun _ => OUTW κ oa fo ++ (SW κ Sa g ++ (RC ra (Sa 0) f9 h9 a9 b9 p9 o9))) 1 6 := by
  refine zH_of (cc := cL_setDanger) (maxL := 4) (rt := some .int) (hh := [(0, 9, 12, 19), (0, 9, 15, 13)]) [(0, .ref (ra)), (1, .int (nI b)), (2, .ref (oa))] (by decide +kernel) rfl (Nat.le_of_ble_eq_true rfl) rfl ?_
  intro p e s m args below meth c A C hr9 hk htab hX
  have C : zC p s m args c cL_setDanger 4 wsL_setDanger RL D (zTy κ) A := C
  refine z_aload_n C dL_setDanger_0 2 rfl ?_
  refine z_iconst (v := nI 0) C dL_setDanger_1 (by decide) ?_
  refine z_aload_n C dL_setDanger_2 0 rfl ?_
  refine z_iload_n C dL_setDanger_3 1 rfl ?_
  refine zx_catchV C (aX_ok adK adV) hX (mX5_setDanger_bad l D κ adK adV Sa g ra f9 h9 a9 b9 p9 o9 σ M b hls hr hv hb h0) gL_setDanger_X5_setDanger rfl rfl rfl hdX5_setDanger ⟨(Nat.le_of_ble_eq_true rfl), (Nat.le_of_ble_eq_true rfl)⟩ 13 rfl rfl (OUTW κ oa fo) (fun _ => OUTW κ oa fo ++ (SW κ Sa g ++ (RC ra (Sa 0) f9 h9 a9 b9 p9 o9))) List.perm_append_comm (fun _ => List.perm_append_comm) rfl (Nat.le_of_ble_eq_true rfl) dL_setDanger_4 ⟨(Nat.le_of_ble_eq_true rfl), (Nat.le_of_ble_eq_true rfl)⟩ [⟨0, 9, 12, 19⟩] ⟨0, 9, 15, 13⟩ [] htab (fun z hz => by
      simp only [List.mem_cons, List.not_mem_nil, or_false] at hz
      rcases hz with rfl
      · exact Or.inr ⟨by decide, eIB, by decide +kernel, hX.2.2.2.1 (eIS, eIB) (by simp [nNs])⟩) (by decide) (by decide) (name := eIS) (show Cond.classLink RL 13 eIS ∈ wsL_setDanger from by decide +kernel) (hX.2.2.1 _ (by simp [nCs])) (fun u q hu => ?_)
  refine z_astore_n C [(3, .ref (q)), (0, .ref (ra)), (1, .int (nI b)), (2, .ref (oa))] dL_setDanger_15 (by decide) rfl ?_
  refine z_iconst (v := nI 2) C dL_setDanger_16 (by decide) ?_
  exact zh_iret C hr9 hk u rfl hu (List.Perm.of_eq rfl) dL_setDanger_17 (Nat.le_of_ble_eq_true rfl) (Nat.le_of_ble_eq_true rfl)
set_option maxRecDepth 100000 in
set_option maxHeartbeats 4000000 in
theorem mL_repair_ok (l : Launch) (D : va_G) (κ : Nat → ClassId) (Sa Ha : Nat → Nat) (Hs : Nat → Nat → Nat) (hf : Nat → Option Nat) (ra f9 a9 b9 p9 o9 : Nat) (g : Nat → Nat → Nat) (nx ct : Nat) (gh : Nat → Nat → Nat → Nat) (σ : Nat → Nat) (M : Nat) (b : Nat) (hr : Rep g σ) (hv : Inv M σ) (hhf : ∀ j, j < 10 → hf j = some (Hs j 0)) (hnx : nx < 10) (hct : ct ≤ 10) (hb : b < σ 1) (h0 : trAt σ b = 0) (adK adV : Nat → Nat) (oa : Nat) (fo : Nat → Int64) : zH (aX adK adV) l yL_repair wsL_repair { frames := 4, cells := 0, slots := 0, locals := 92 } D (zTy κ) [.ref ra, .int (nI b), .ref oa] (OUTW κ oa fo ++ (kW κ Sa Ha Hs hf ra f9 a9 b9 p9 o9 g nx ct gh)) (S := (Nat → Nat → Nat) × (Nat → Nat → Nat)) (fun _ => some (.int (nI 0))) (fun u => Rep u.1 σ ∧ Rep u.2 (upN σ (5 + 6 * b + 1) 0)) (fun u => OUTW κ oa (vp_updL fo 0 (((nI (σ (5 + 6 * b + 1)))).toInt64)) ++ (kW κ Sa Ha Hs hf ra f9 a9 b9 p9 o9 u.2 (fwN nx) (mnN ct) (upS gh nx u.1))) 0 0 := by
  refine zH_of (cc := cL_repair) (maxL := 4) (rt := some .int) (hh := [(0, 9, 12, 19), (0, 9, 15, 13)]) [(0, .ref (ra)), (1, .int (nI b)), (2, .ref (oa))] (by decide +kernel) rfl (Nat.le_of_ble_eq_true rfl) rfl ?_
  intro p e s m args below meth c A C hr9 hk htab hX
  have C : zC p s m args c cL_repair 4 wsL_repair RL D (zTy κ) A := C
  refine z_aload_n C dL_repair_0 2 rfl ?_
  refine z_iconst (v := nI 0) C dL_repair_1 (by decide) ?_
  refine z_aload_n C dL_repair_2 0 rfl ?_
  refine z_iload_n C dL_repair_3 1 rfl ?_
  refine z_callV C (mX5_repair_ok l D κ Sa Ha Hs hf ra f9 a9 b9 p9 o9 g nx ct gh σ M b hr hv hhf hnx hct hb h0) gL_repair_X5_repair rfl rfl rfl hdX5_repair ⟨(Nat.le_of_ble_eq_true rfl), (Nat.le_of_ble_eq_true rfl)⟩ 13 rfl rfl (OUTW κ oa fo) (fun u => OUTW κ oa fo ++ (kW κ Sa Ha Hs hf ra f9 a9 b9 p9 o9 u.2 (fwN nx) (mnN ct) (upS gh nx u.1))) List.perm_append_comm (fun _ => List.perm_append_comm) rfl (Nat.le_of_ble_eq_true rfl) dL_repair_4 ⟨(Nat.le_of_ble_eq_true rfl), (Nat.le_of_ble_eq_true rfl)⟩ (fun u hu => ?_)
  refine z_i2l C dL_repair_7 rfl ?_
  refine z_last C 0 4 rfl rfl (i := 0) (by decide) (by decide) dL_repair_8 (OUTW κ oa (vp_updL fo 0 (((nI (σ (5 + 6 * b + 1)))).toInt64)) ++ (kW κ Sa Ha Hs hf ra f9 a9 b9 p9 o9 u.2 (fwN nx) (mnN ct) (upS gh nx u.1))) rfl ?_
  refine z_goto (tgt := 18) C dL_repair_9 (by decide) ?_
  refine z_iconst (v := nI 0) C dL_repair_18 (by decide) ?_
  exact zh_iret C hr9 hk u rfl hu (List.Perm.of_eq rfl) dL_repair_19 (Nat.le_of_ble_eq_true rfl) (Nat.le_of_ble_eq_true rfl)
theorem hdL_repair : yL_repair.cls ≠ "java/lang/invoke/MethodHandle" ∧ yL_repair.cls ≠ "java/lang/invoke/VarHandle" ∧ (parseMethodDescriptor yL_repair.desc).map (fun d => d.parameters.length) = some 3 := by decide +kernel
set_option maxRecDepth 100000 in
set_option maxHeartbeats 4000000 in
theorem mL_repair_no (l : Launch) (D : va_G) (κ : Nat → ClassId) (adK adV : Nat → Nat) (Sa : Nat → Nat) (g : Nat → Nat → Nat) (ra f9 h9 a9 b9 p9 o9 : Nat) (σ : Nat → Nat) (M : Nat) (x : Int32) (hls : l.stackTraces = false) (hr : Rep g σ) (hv : Inv M σ) (hx : isB (σ 1) x = false) (oa : Nat) (fo : Nat → Int64) : zH (aX adK adV) l yL_repair wsL_repair { frames := 8, cells := 1, slots := 6, locals := 125 } D (zTy κ) [.ref (ra), .int (x), .ref oa] (OUTW κ oa fo ++ (SW κ Sa g ++ (RC ra (Sa 0) f9 h9 a9 b9 p9 o9))) (S := Unit) (fun _ => some (.int (nI 1))) (fun _ => True) (fun _ => OUTW κ oa fo ++ (SW κ Sa g ++ (RC ra (Sa 0) f9 h9 a9 b9 p9 o9))) 1 6 := by
  refine zH_of (cc := cL_repair) (maxL := 4) (rt := some .int) (hh := [(0, 9, 12, 19), (0, 9, 15, 13)]) [(0, .ref (ra)), (1, .int (x)), (2, .ref (oa))] (by decide +kernel) rfl (Nat.le_of_ble_eq_true rfl) rfl ?_
  intro p e s m args below meth c A C hr9 hk htab hX
  have C : zC p s m args c cL_repair 4 wsL_repair RL D (zTy κ) A := C
  refine z_aload_n C dL_repair_0 2 rfl ?_
  refine z_iconst (v := nI 0) C dL_repair_1 (by decide) ?_
  refine z_aload_n C dL_repair_2 0 rfl ?_
  refine z_iload_n C dL_repair_3 1 rfl ?_
  refine zx_catchV C (aX_ok adK adV) hX (mX5_repair_no l D κ adK adV Sa g ra f9 h9 a9 b9 p9 o9 σ M x hls hr hv hx) gL_repair_X5_repair rfl rfl rfl hdX5_repair ⟨(Nat.le_of_ble_eq_true rfl), (Nat.le_of_ble_eq_true rfl)⟩ 13 rfl rfl (OUTW κ oa fo) (fun _ => OUTW κ oa fo ++ (SW κ Sa g ++ (RC ra (Sa 0) f9 h9 a9 b9 p9 o9))) List.perm_append_comm (fun _ => List.perm_append_comm) rfl (Nat.le_of_ble_eq_true rfl) dL_repair_4 ⟨(Nat.le_of_ble_eq_true rfl), (Nat.le_of_ble_eq_true rfl)⟩ [] ⟨0, 9, 12, 19⟩ [⟨0, 9, 15, 13⟩] htab (fun z hz => absurd hz List.not_mem_nil) (by decide) (by decide) (name := eIB) (show Cond.classLink RL 19 eIB ∈ wsL_repair from by decide +kernel) (hX.2.2.1 _ (by simp [nCs])) (fun u q hu => ?_)
  refine z_astore_n C [(3, .ref (q)), (0, .ref (ra)), (1, .int (x)), (2, .ref (oa))] dL_repair_12 (by decide) rfl ?_
  refine z_iconst (v := nI 1) C dL_repair_13 (by decide) ?_
  exact zh_iret C hr9 hk u rfl hu (List.Perm.of_eq rfl) dL_repair_14 (Nat.le_of_ble_eq_true rfl) (Nat.le_of_ble_eq_true rfl)
set_option maxRecDepth 100000 in
set_option maxHeartbeats 4000000 in
theorem mL_repair_bad (l : Launch) (D : va_G) (κ : Nat → ClassId) (adK adV : Nat → Nat) (Sa : Nat → Nat) (g : Nat → Nat → Nat) (ra f9 h9 a9 b9 p9 o9 : Nat) (σ : Nat → Nat) (M : Nat) (b : Nat) (hls : l.stackTraces = false) (hr : Rep g σ) (hv : Inv M σ) (hb : b < σ 1) (h0 : trAt σ b ≠ 0) (oa : Nat) (fo : Nat → Int64) : zH (aX adK adV) l yL_repair wsL_repair { frames := 7, cells := 1, slots := 6, locals := 125 } D (zTy κ) [.ref (ra), .int (nI b), .ref oa] (OUTW κ oa fo ++ (SW κ Sa g ++ (RC ra (Sa 0) f9 h9 a9 b9 p9 o9))) (S := Unit) (fun _ => some (.int (nI 2))) (fun _ => True) (fun _ => OUTW κ oa fo ++ (SW κ Sa g ++ (RC ra (Sa 0) f9 h9 a9 b9 p9 o9))) 1 6 := by
  refine zH_of (cc := cL_repair) (maxL := 4) (rt := some .int) (hh := [(0, 9, 12, 19), (0, 9, 15, 13)]) [(0, .ref (ra)), (1, .int (nI b)), (2, .ref (oa))] (by decide +kernel) rfl (Nat.le_of_ble_eq_true rfl) rfl ?_
  intro p e s m args below meth c A C hr9 hk htab hX
  have C : zC p s m args c cL_repair 4 wsL_repair RL D (zTy κ) A := C
  refine z_aload_n C dL_repair_0 2 rfl ?_
  refine z_iconst (v := nI 0) C dL_repair_1 (by decide) ?_
  refine z_aload_n C dL_repair_2 0 rfl ?_
  refine z_iload_n C dL_repair_3 1 rfl ?_
  refine zx_catchV C (aX_ok adK adV) hX (mX5_repair_bad l D κ adK adV Sa g ra f9 h9 a9 b9 p9 o9 σ M b hls hr hv hb h0) gL_repair_X5_repair rfl rfl rfl hdX5_repair ⟨(Nat.le_of_ble_eq_true rfl), (Nat.le_of_ble_eq_true rfl)⟩ 13 rfl rfl (OUTW κ oa fo) (fun _ => OUTW κ oa fo ++ (SW κ Sa g ++ (RC ra (Sa 0) f9 h9 a9 b9 p9 o9))) List.perm_append_comm (fun _ => List.perm_append_comm) rfl (Nat.le_of_ble_eq_true rfl) dL_repair_4 ⟨(Nat.le_of_ble_eq_true rfl), (Nat.le_of_ble_eq_true rfl)⟩ [⟨0, 9, 12, 19⟩] ⟨0, 9, 15, 13⟩ [] htab (fun z hz => by
      simp only [List.mem_cons, List.not_mem_nil, or_false] at hz
      rcases hz with rfl
      · exact Or.inr ⟨by decide, eIB, by decide +kernel, hX.2.2.2.1 (eIS, eIB) (by simp [nNs])⟩) (by decide) (by decide) (name := eIS) (show Cond.classLink RL 13 eIS ∈ wsL_repair from by decide +kernel) (hX.2.2.1 _ (by simp [nCs])) (fun u q hu => ?_)
  refine z_astore_n C [(3, .ref (q)), (0, .ref (ra)), (1, .int (nI b)), (2, .ref (oa))] dL_repair_15 (by decide) rfl ?_
  refine z_iconst (v := nI 2) C dL_repair_16 (by decide) ?_
  exact zh_iret C hr9 hk u rfl hu (List.Perm.of_eq rfl) dL_repair_17 (Nat.le_of_ble_eq_true rfl) (Nat.le_of_ble_eq_true rfl)
set_option maxRecDepth 100000 in
set_option maxHeartbeats 4000000 in
theorem mL_removeWagons_ok (l : Launch) (D : va_G) (κ : Nat → ClassId) (Sa Ha : Nat → Nat) (Hs : Nat → Nat → Nat) (hf : Nat → Option Nat) (ra f9 a9 b9 p9 o9 : Nat) (g : Nat → Nat → Nat) (nx ct : Nat) (gh : Nat → Nat → Nat → Nat) (σ : Nat → Nat) (M : Nat) (b : Nat) (hr : Rep g σ) (hv : Inv M σ) (hhf : ∀ j, j < 10 → hf j = some (Hs j 0)) (hnx : nx < 10) (hct : ct ≤ 10) (hb : b < σ 1) (adK adV : Nat → Nat) (oa : Nat) (fo : Nat → Int64) : zH (aX adK adV) l yL_removeWagons wsL_removeWagons { frames := 4, cells := 0, slots := 0, locals := 92 } D (zTy κ) [.ref ra, .int (nI b), .ref oa] (OUTW κ oa fo ++ (kW κ Sa Ha Hs hf ra f9 a9 b9 p9 o9 g nx ct gh)) (S := (Nat → Nat → Nat) × (Nat → Nat → Nat)) (fun _ => some (.int (nI 0))) (fun u => Rep u.1 σ ∧ Rep u.2 (upN (upN σ (5 + 6 * b + 5) 0) 3 (σ 3 + σ (5 + 6 * b + 5)))) (fun u => OUTW κ oa (vp_updL fo 0 (((nI (σ (5 + 6 * b + 5)))).toInt64)) ++ (kW κ Sa Ha Hs hf ra f9 a9 b9 p9 o9 u.2 (fwN nx) (mnN ct) (upS gh nx u.1))) 0 0 := by
  refine zH_of (cc := cL_removeWagons) (maxL := 4) (rt := some .int) (hh := [(0, 9, 12, 19)]) [(0, .ref (ra)), (1, .int (nI b)), (2, .ref (oa))] (by decide +kernel) rfl (Nat.le_of_ble_eq_true rfl) rfl ?_
  intro p e s m args below meth c A C hr9 hk htab hX
  have C : zC p s m args c cL_removeWagons 4 wsL_removeWagons RL D (zTy κ) A := C
  refine z_aload_n C dL_removeWagons_0 2 rfl ?_
  refine z_iconst (v := nI 0) C dL_removeWagons_1 (by decide) ?_
  refine z_aload_n C dL_removeWagons_2 0 rfl ?_
  refine z_iload_n C dL_removeWagons_3 1 rfl ?_
  refine z_callV C (mX5_removeWagons_ok l D κ Sa Ha Hs hf ra f9 a9 b9 p9 o9 g nx ct gh σ M b hr hv hhf hnx hct hb) gL_removeWagons_X5_removeWagons rfl rfl rfl hdX5_removeWagons ⟨(Nat.le_of_ble_eq_true rfl), (Nat.le_of_ble_eq_true rfl)⟩ 13 rfl rfl (OUTW κ oa fo) (fun u => OUTW κ oa fo ++ (kW κ Sa Ha Hs hf ra f9 a9 b9 p9 o9 u.2 (fwN nx) (mnN ct) (upS gh nx u.1))) List.perm_append_comm (fun _ => List.perm_append_comm) rfl (Nat.le_of_ble_eq_true rfl) dL_removeWagons_4 ⟨(Nat.le_of_ble_eq_true rfl), (Nat.le_of_ble_eq_true rfl)⟩ (fun u hu => ?_)
  refine z_i2l C dL_removeWagons_7 rfl ?_
  refine z_last C 0 4 rfl rfl (i := 0) (by decide) (by decide) dL_removeWagons_8 (OUTW κ oa (vp_updL fo 0 (((nI (σ (5 + 6 * b + 5)))).toInt64)) ++ (kW κ Sa Ha Hs hf ra f9 a9 b9 p9 o9 u.2 (fwN nx) (mnN ct) (upS gh nx u.1))) rfl ?_
  refine z_goto (tgt := 15) C dL_removeWagons_9 (by decide) ?_
  refine z_iconst (v := nI 0) C dL_removeWagons_15 (by decide) ?_
  exact zh_iret C hr9 hk u rfl hu (List.Perm.of_eq rfl) dL_removeWagons_16 (Nat.le_of_ble_eq_true rfl) (Nat.le_of_ble_eq_true rfl)
theorem hdL_removeWagons : yL_removeWagons.cls ≠ "java/lang/invoke/MethodHandle" ∧ yL_removeWagons.cls ≠ "java/lang/invoke/VarHandle" ∧ (parseMethodDescriptor yL_removeWagons.desc).map (fun d => d.parameters.length) = some 3 := by decide +kernel
set_option maxRecDepth 100000 in
set_option maxHeartbeats 4000000 in
theorem mL_removeWagons_no (l : Launch) (D : va_G) (κ : Nat → ClassId) (adK adV : Nat → Nat) (Sa : Nat → Nat) (g : Nat → Nat → Nat) (ra f9 h9 a9 b9 p9 o9 : Nat) (σ : Nat → Nat) (M : Nat) (x : Int32) (hls : l.stackTraces = false) (hr : Rep g σ) (hv : Inv M σ) (hx : isB (σ 1) x = false) (oa : Nat) (fo : Nat → Int64) : zH (aX adK adV) l yL_removeWagons wsL_removeWagons { frames := 8, cells := 1, slots := 6, locals := 125 } D (zTy κ) [.ref (ra), .int (x), .ref oa] (OUTW κ oa fo ++ (SW κ Sa g ++ (RC ra (Sa 0) f9 h9 a9 b9 p9 o9))) (S := Unit) (fun _ => some (.int (nI 1))) (fun _ => True) (fun _ => OUTW κ oa fo ++ (SW κ Sa g ++ (RC ra (Sa 0) f9 h9 a9 b9 p9 o9))) 1 6 := by
  refine zH_of (cc := cL_removeWagons) (maxL := 4) (rt := some .int) (hh := [(0, 9, 12, 19)]) [(0, .ref (ra)), (1, .int (x)), (2, .ref (oa))] (by decide +kernel) rfl (Nat.le_of_ble_eq_true rfl) rfl ?_
  intro p e s m args below meth c A C hr9 hk htab hX
  have C : zC p s m args c cL_removeWagons 4 wsL_removeWagons RL D (zTy κ) A := C
  refine z_aload_n C dL_removeWagons_0 2 rfl ?_
  refine z_iconst (v := nI 0) C dL_removeWagons_1 (by decide) ?_
  refine z_aload_n C dL_removeWagons_2 0 rfl ?_
  refine z_iload_n C dL_removeWagons_3 1 rfl ?_
  refine zx_catchV C (aX_ok adK adV) hX (mX5_removeWagons_no l D κ adK adV Sa g ra f9 h9 a9 b9 p9 o9 σ M x hls hr hv hx) gL_removeWagons_X5_removeWagons rfl rfl rfl hdX5_removeWagons ⟨(Nat.le_of_ble_eq_true rfl), (Nat.le_of_ble_eq_true rfl)⟩ 13 rfl rfl (OUTW κ oa fo) (fun _ => OUTW κ oa fo ++ (SW κ Sa g ++ (RC ra (Sa 0) f9 h9 a9 b9 p9 o9))) List.perm_append_comm (fun _ => List.perm_append_comm) rfl (Nat.le_of_ble_eq_true rfl) dL_removeWagons_4 ⟨(Nat.le_of_ble_eq_true rfl), (Nat.le_of_ble_eq_true rfl)⟩ [] ⟨0, 9, 12, 19⟩ [] htab (fun z hz => absurd hz List.not_mem_nil) (by decide) (by decide) (name := eIB) (show Cond.classLink RL 19 eIB ∈ wsL_removeWagons from by decide +kernel) (hX.2.2.1 _ (by simp [nCs])) (fun u q hu => ?_)
  refine z_astore_n C [(3, .ref (q)), (0, .ref (ra)), (1, .int (x)), (2, .ref (oa))] dL_removeWagons_12 (by decide) rfl ?_
  refine z_iconst (v := nI 1) C dL_removeWagons_13 (by decide) ?_
  exact zh_iret C hr9 hk u rfl hu (List.Perm.of_eq rfl) dL_removeWagons_14 (Nat.le_of_ble_eq_true rfl) (Nat.le_of_ble_eq_true rfl)
set_option maxRecDepth 100000 in
set_option maxHeartbeats 4000000 in
theorem mL_addWagons_ok (l : Launch) (D : va_G) (κ : Nat → ClassId) (Sa Ha : Nat → Nat) (Hs : Nat → Nat → Nat) (hf : Nat → Option Nat) (ra f9 a9 b9 p9 o9 : Nat) (g : Nat → Nat → Nat) (nx ct : Nat) (gh : Nat → Nat → Nat → Nat) (σ : Nat → Nat) (M : Nat) (b n : Nat) (hr : Rep g σ) (hv : Inv M σ) (hhf : ∀ j, j < 10 → hf j = some (Hs j 0)) (hnx : nx < 10) (hct : ct ≤ 10) (hb : b < σ 2) (h1n : 1 ≤ n) (h2n : n ≤ 11) (hl : σ (65 + 5 * b + 0) + n ≤ 12) (adK adV : Nat → Nat) (oa : Nat) (fo : Nat → Int64) : zH (aX adK adV) l yL_addWagons wsL_addWagons { frames := 4, cells := 0, slots := 0, locals := 92 } D (zTy κ) [.ref ra, .int (nI b), .int (nI n), .ref oa] (OUTW κ oa fo ++ (kW κ Sa Ha Hs hf ra f9 a9 b9 p9 o9 g nx ct gh)) (S := (Nat → Nat → Nat) × (Nat → Nat → Nat)) (fun _ => some (.int (nI 0))) (fun u => Rep u.1 σ ∧ Rep u.2 (upN (upN σ (65 + 5 * b + 0) (σ (65 + 5 * b + 0) + n)) 4 (σ 4 + n))) (fun u => OUTW κ oa (vp_updL fo 0 (((nI (σ (65 + 5 * b + 0) + n))).toInt64)) ++ (kW κ Sa Ha Hs hf ra f9 a9 b9 p9 o9 u.2 (fwN nx) (mnN ct) (upS gh nx u.1))) 0 0 := by
  refine zH_of (cc := cL_addWagons) (maxL := 5) (rt := some .int) (hh := [(0, 10, 13, 19), (0, 10, 17, 21), (0, 10, 21, 13)]) [(0, .ref (ra)), (1, .int (nI b)), (2, .int (nI n)), (3, .ref (oa))] (by decide +kernel) rfl (Nat.le_of_ble_eq_true rfl) rfl ?_
  intro p e s m args below meth c A C hr9 hk htab hX
  have C : zC p s m args c cL_addWagons 5 wsL_addWagons RL D (zTy κ) A := C
  refine z_aload_n C dL_addWagons_0 3 rfl ?_
  refine z_iconst (v := nI 0) C dL_addWagons_1 (by decide) ?_
  refine z_aload_n C dL_addWagons_2 0 rfl ?_
  refine z_iload_n C dL_addWagons_3 1 rfl ?_
  refine z_iload_n C dL_addWagons_4 2 rfl ?_
  refine z_callV C (mX5_addWagons_ok l D κ Sa Ha Hs hf ra f9 a9 b9 p9 o9 g nx ct gh σ M b n hr hv hhf hnx hct hb h1n h2n hl) gL_addWagons_X5_addWagons rfl rfl rfl hdX5_addWagons ⟨(Nat.le_of_ble_eq_true rfl), (Nat.le_of_ble_eq_true rfl)⟩ 13 rfl rfl (OUTW κ oa fo) (fun u => OUTW κ oa fo ++ (kW κ Sa Ha Hs hf ra f9 a9 b9 p9 o9 u.2 (fwN nx) (mnN ct) (upS gh nx u.1))) List.perm_append_comm (fun _ => List.perm_append_comm) rfl (Nat.le_of_ble_eq_true rfl) dL_addWagons_5 ⟨(Nat.le_of_ble_eq_true rfl), (Nat.le_of_ble_eq_true rfl)⟩ (fun u hu => ?_)
  refine z_i2l C dL_addWagons_8 rfl ?_
  refine z_last C 0 4 rfl rfl (i := 0) (by decide) (by decide) dL_addWagons_9 (OUTW κ oa (vp_updL fo 0 (((nI (σ (65 + 5 * b + 0) + n))).toInt64)) ++ (kW κ Sa Ha Hs hf ra f9 a9 b9 p9 o9 u.2 (fwN nx) (mnN ct) (upS gh nx u.1))) rfl ?_
  refine z_goto (tgt := 25) C dL_addWagons_10 (by decide) ?_
  refine z_iconst (v := nI 0) C dL_addWagons_25 (by decide) ?_
  exact zh_iret C hr9 hk u rfl hu (List.Perm.of_eq rfl) dL_addWagons_26 (Nat.le_of_ble_eq_true rfl) (Nat.le_of_ble_eq_true rfl)
theorem hdL_addWagons : yL_addWagons.cls ≠ "java/lang/invoke/MethodHandle" ∧ yL_addWagons.cls ≠ "java/lang/invoke/VarHandle" ∧ (parseMethodDescriptor yL_addWagons.desc).map (fun d => d.parameters.length) = some 4 := by decide +kernel
set_option maxRecDepth 100000 in
set_option maxHeartbeats 4000000 in
theorem mL_addWagons_no (l : Launch) (D : va_G) (κ : Nat → ClassId) (adK adV : Nat → Nat) (Sa : Nat → Nat) (g : Nat → Nat → Nat) (ra f9 h9 a9 b9 p9 o9 : Nat) (σ : Nat → Nat) (M : Nat) (x y : Int32) (hls : l.stackTraces = false) (hr : Rep g σ) (hv : Inv M σ) (hx : isB (σ 2) x = false) (oa : Nat) (fo : Nat → Int64) : zH (aX adK adV) l yL_addWagons wsL_addWagons { frames := 8, cells := 1, slots := 6, locals := 125 } D (zTy κ) [.ref (ra), .int (x), .int (y), .ref oa] (OUTW κ oa fo ++ (SW κ Sa g ++ (RC ra (Sa 0) f9 h9 a9 b9 p9 o9))) (S := Unit) (fun _ => some (.int (nI 1))) (fun _ => True) (fun _ => OUTW κ oa fo ++ (SW κ Sa g ++ (RC ra (Sa 0) f9 h9 a9 b9 p9 o9))) 1 6 := by
  refine zH_of (cc := cL_addWagons) (maxL := 5) (rt := some .int) (hh := [(0, 10, 13, 19), (0, 10, 17, 21), (0, 10, 21, 13)]) [(0, .ref (ra)), (1, .int (x)), (2, .int (y)), (3, .ref (oa))] (by decide +kernel) rfl (Nat.le_of_ble_eq_true rfl) rfl ?_
  intro p e s m args below meth c A C hr9 hk htab hX
  have C : zC p s m args c cL_addWagons 5 wsL_addWagons RL D (zTy κ) A := C
  refine z_aload_n C dL_addWagons_0 3 rfl ?_
  refine z_iconst (v := nI 0) C dL_addWagons_1 (by decide) ?_
  refine z_aload_n C dL_addWagons_2 0 rfl ?_
  refine z_iload_n C dL_addWagons_3 1 rfl ?_
  refine z_iload_n C dL_addWagons_4 2 rfl ?_
  refine zx_catchV C (aX_ok adK adV) hX (mX5_addWagons_no l D κ adK adV Sa g ra f9 h9 a9 b9 p9 o9 σ M x y hls hr hv hx) gL_addWagons_X5_addWagons rfl rfl rfl hdX5_addWagons ⟨(Nat.le_of_ble_eq_true rfl), (Nat.le_of_ble_eq_true rfl)⟩ 13 rfl rfl (OUTW κ oa fo) (fun _ => OUTW κ oa fo ++ (SW κ Sa g ++ (RC ra (Sa 0) f9 h9 a9 b9 p9 o9))) List.perm_append_comm (fun _ => List.perm_append_comm) rfl (Nat.le_of_ble_eq_true rfl) dL_addWagons_5 ⟨(Nat.le_of_ble_eq_true rfl), (Nat.le_of_ble_eq_true rfl)⟩ [] ⟨0, 10, 13, 19⟩ [⟨0, 10, 17, 21⟩, ⟨0, 10, 21, 13⟩] htab (fun z hz => absurd hz List.not_mem_nil) (by decide) (by decide) (name := eIB) (show Cond.classLink RL 19 eIB ∈ wsL_addWagons from by decide +kernel) (hX.2.2.1 _ (by simp [nCs])) (fun u q hu => ?_)
  refine z_astore C [(4, .ref (q)), (0, .ref (ra)), (1, .int (x)), (2, .int (y)), (3, .ref (oa))] dL_addWagons_13 (by decide) rfl ?_
  refine z_iconst (v := nI 1) C dL_addWagons_15 (by decide) ?_
  exact zh_iret C hr9 hk u rfl hu (List.Perm.of_eq rfl) dL_addWagons_16 (Nat.le_of_ble_eq_true rfl) (Nat.le_of_ble_eq_true rfl)
set_option maxRecDepth 100000 in
set_option maxHeartbeats 4000000 in
theorem mL_addWagons_rng (l : Launch) (D : va_G) (κ : Nat → ClassId) (adK adV : Nat → Nat) (Sa : Nat → Nat) (g : Nat → Nat → Nat) (ra f9 h9 a9 b9 p9 o9 : Nat) (σ : Nat → Nat) (M : Nat) (b : Nat) (x : Int32) (hls : l.stackTraces = false) (hr : Rep g σ) (hv : Inv M σ) (hb : b < σ 2) (hx : inI x (nI 1) (nI 11) = false) (oa : Nat) (fo : Nat → Int64) : zH (aX adK adV) l yL_addWagons wsL_addWagons { frames := 7, cells := 1, slots := 6, locals := 125 } D (zTy κ) [.ref (ra), .int (nI b), .int (x), .ref oa] (OUTW κ oa fo ++ (SW κ Sa g ++ (RC ra (Sa 0) f9 h9 a9 b9 p9 o9))) (S := Unit) (fun _ => some (.int (nI 2))) (fun _ => True) (fun _ => OUTW κ oa fo ++ (SW κ Sa g ++ (RC ra (Sa 0) f9 h9 a9 b9 p9 o9))) 1 6 := by
  refine zH_of (cc := cL_addWagons) (maxL := 5) (rt := some .int) (hh := [(0, 10, 13, 19), (0, 10, 17, 21), (0, 10, 21, 13)]) [(0, .ref (ra)), (1, .int (nI b)), (2, .int (x)), (3, .ref (oa))] (by decide +kernel) rfl (Nat.le_of_ble_eq_true rfl) rfl ?_
  intro p e s m args below meth c A C hr9 hk htab hX
  have C : zC p s m args c cL_addWagons 5 wsL_addWagons RL D (zTy κ) A := C
  refine z_aload_n C dL_addWagons_0 3 rfl ?_
  refine z_iconst (v := nI 0) C dL_addWagons_1 (by decide) ?_
  refine z_aload_n C dL_addWagons_2 0 rfl ?_
  refine z_iload_n C dL_addWagons_3 1 rfl ?_
  refine z_iload_n C dL_addWagons_4 2 rfl ?_
  refine zx_catchV C (aX_ok adK adV) hX (mX5_addWagons_rng l D κ adK adV Sa g ra f9 h9 a9 b9 p9 o9 σ M b x hls hr hv hb hx) gL_addWagons_X5_addWagons rfl rfl rfl hdX5_addWagons ⟨(Nat.le_of_ble_eq_true rfl), (Nat.le_of_ble_eq_true rfl)⟩ 13 rfl rfl (OUTW κ oa fo) (fun _ => OUTW κ oa fo ++ (SW κ Sa g ++ (RC ra (Sa 0) f9 h9 a9 b9 p9 o9))) List.perm_append_comm (fun _ => List.perm_append_comm) rfl (Nat.le_of_ble_eq_true rfl) dL_addWagons_5 ⟨(Nat.le_of_ble_eq_true rfl), (Nat.le_of_ble_eq_true rfl)⟩ [⟨0, 10, 13, 19⟩] ⟨0, 10, 17, 21⟩ [⟨0, 10, 21, 13⟩] htab (fun z hz => by
      simp only [List.mem_cons, List.not_mem_nil, or_false] at hz
      rcases hz with rfl
      · exact Or.inr ⟨by decide, eIB, by decide +kernel, hX.2.2.2.1 (eIA, eIB) (by simp [nNs])⟩) (by decide) (by decide) (name := eIA) (show Cond.classLink RL 21 eIA ∈ wsL_addWagons from by decide +kernel) (hX.2.2.1 _ (by simp [nCs])) (fun u q hu => ?_)
  refine z_astore C [(4, .ref (q)), (0, .ref (ra)), (1, .int (nI b)), (2, .int (x)), (3, .ref (oa))] dL_addWagons_17 (by decide) rfl ?_
  refine z_iconst (v := nI 2) C dL_addWagons_19 (by decide) ?_
  exact zh_iret C hr9 hk u rfl hu (List.Perm.of_eq rfl) dL_addWagons_20 (Nat.le_of_ble_eq_true rfl) (Nat.le_of_ble_eq_true rfl)
set_option maxRecDepth 100000 in
set_option maxHeartbeats 4000000 in
theorem mL_addWagons_lim (l : Launch) (D : va_G) (κ : Nat → ClassId) (adK adV : Nat → Nat) (Sa : Nat → Nat) (g : Nat → Nat → Nat) (ra f9 h9 a9 b9 p9 o9 : Nat) (σ : Nat → Nat) (M : Nat) (b n : Nat) (hls : l.stackTraces = false) (hr : Rep g σ) (hv : Inv M σ) (hb : b < σ 2) (h1n : 1 ≤ n) (h2n : n ≤ 11) (hl : 12 < σ (65 + 5 * b + 0) + n) (oa : Nat) (fo : Nat → Int64) : zH (aX adK adV) l yL_addWagons wsL_addWagons { frames := 7, cells := 1, slots := 6, locals := 125 } D (zTy κ) [.ref (ra), .int (nI b), .int (nI n), .ref oa] (OUTW κ oa fo ++ (SW κ Sa g ++ (RC ra (Sa 0) f9 h9 a9 b9 p9 o9))) (S := Unit) (fun _ => some (.int (nI 3))) (fun _ => True) (fun _ => OUTW κ oa fo ++ (SW κ Sa g ++ (RC ra (Sa 0) f9 h9 a9 b9 p9 o9))) 1 6 := by
  refine zH_of (cc := cL_addWagons) (maxL := 5) (rt := some .int) (hh := [(0, 10, 13, 19), (0, 10, 17, 21), (0, 10, 21, 13)]) [(0, .ref (ra)), (1, .int (nI b)), (2, .int (nI n)), (3, .ref (oa))] (by decide +kernel) rfl (Nat.le_of_ble_eq_true rfl) rfl ?_
  intro p e s m args below meth c A C hr9 hk htab hX
  have C : zC p s m args c cL_addWagons 5 wsL_addWagons RL D (zTy κ) A := C
  refine z_aload_n C dL_addWagons_0 3 rfl ?_
  refine z_iconst (v := nI 0) C dL_addWagons_1 (by decide) ?_
  refine z_aload_n C dL_addWagons_2 0 rfl ?_
  refine z_iload_n C dL_addWagons_3 1 rfl ?_
  refine z_iload_n C dL_addWagons_4 2 rfl ?_
  refine zx_catchV C (aX_ok adK adV) hX (mX5_addWagons_lim l D κ adK adV Sa g ra f9 h9 a9 b9 p9 o9 σ M b n hls hr hv hb h1n h2n hl) gL_addWagons_X5_addWagons rfl rfl rfl hdX5_addWagons ⟨(Nat.le_of_ble_eq_true rfl), (Nat.le_of_ble_eq_true rfl)⟩ 13 rfl rfl (OUTW κ oa fo) (fun _ => OUTW κ oa fo ++ (SW κ Sa g ++ (RC ra (Sa 0) f9 h9 a9 b9 p9 o9))) List.perm_append_comm (fun _ => List.perm_append_comm) rfl (Nat.le_of_ble_eq_true rfl) dL_addWagons_5 ⟨(Nat.le_of_ble_eq_true rfl), (Nat.le_of_ble_eq_true rfl)⟩ [⟨0, 10, 13, 19⟩, ⟨0, 10, 17, 21⟩] ⟨0, 10, 21, 13⟩ [] htab (fun z hz => by
      simp only [List.mem_cons, List.not_mem_nil, or_false] at hz
      rcases hz with rfl | rfl
      · exact Or.inr ⟨by decide, eIB, by decide +kernel, hX.2.2.2.1 (eIS, eIB) (by simp [nNs])⟩
      · exact Or.inr ⟨by decide, eIA, by decide +kernel, hX.2.2.2.1 (eIS, eIA) (by simp [nNs])⟩) (by decide) (by decide) (name := eIS) (show Cond.classLink RL 13 eIS ∈ wsL_addWagons from by decide +kernel) (hX.2.2.1 _ (by simp [nCs])) (fun u q hu => ?_)
  refine z_astore C [(4, .ref (q)), (0, .ref (ra)), (1, .int (nI b)), (2, .int (nI n)), (3, .ref (oa))] dL_addWagons_21 (by decide) rfl ?_
  refine z_iconst (v := nI 3) C dL_addWagons_23 (by decide) ?_
  exact zh_iret C hr9 hk u rfl hu (List.Perm.of_eq rfl) dL_addWagons_24 (Nat.le_of_ble_eq_true rfl) (Nat.le_of_ble_eq_true rfl)
set_option maxRecDepth 100000 in
set_option maxHeartbeats 4000000 in
theorem mL_setTopSpeed_ok (l : Launch) (D : va_G) (κ : Nat → ClassId) (Sa Ha : Nat → Nat) (Hs : Nat → Nat → Nat) (hf : Nat → Option Nat) (ra f9 a9 b9 p9 o9 : Nat) (g : Nat → Nat → Nat) (nx ct : Nat) (gh : Nat → Nat → Nat → Nat) (σ : Nat → Nat) (M : Nat) (b n : Nat) (hr : Rep g σ) (hv : Inv M σ) (hhf : ∀ j, j < 10 → hf j = some (Hs j 0)) (hnx : nx < 10) (hct : ct ≤ 10) (hb : b < σ 2) (h1n : 1 ≤ n) (h2n : n ≤ 5) (adK adV : Nat → Nat) (oa : Nat) (fo : Nat → Int64) : zH (aX adK adV) l yL_setTopSpeed wsL_setTopSpeed { frames := 4, cells := 0, slots := 0, locals := 93 } D (zTy κ) [.ref ra, .int (nI b), .int (nI n), .ref oa] (OUTW κ oa fo ++ (kW κ Sa Ha Hs hf ra f9 a9 b9 p9 o9 g nx ct gh)) (S := (Nat → Nat → Nat) × (Nat → Nat → Nat)) (fun _ => some (.int (nI 0))) (fun u => Rep u.1 σ ∧ Rep u.2 (upN σ (65 + 5 * b + 1) n)) (fun u => OUTW κ oa (vp_updL fo 0 (((nI (σ (65 + 5 * b + 1)))).toInt64)) ++ (kW κ Sa Ha Hs hf ra f9 a9 b9 p9 o9 u.2 (fwN nx) (mnN ct) (upS gh nx u.1))) 0 0 := by
  refine zH_of (cc := cL_setTopSpeed) (maxL := 5) (rt := some .int) (hh := [(0, 10, 13, 19), (0, 10, 17, 21)]) [(0, .ref (ra)), (1, .int (nI b)), (2, .int (nI n)), (3, .ref (oa))] (by decide +kernel) rfl (Nat.le_of_ble_eq_true rfl) rfl ?_
  intro p e s m args below meth c A C hr9 hk htab hX
  have C : zC p s m args c cL_setTopSpeed 5 wsL_setTopSpeed RL D (zTy κ) A := C
  refine z_aload_n C dL_setTopSpeed_0 3 rfl ?_
  refine z_iconst (v := nI 0) C dL_setTopSpeed_1 (by decide) ?_
  refine z_aload_n C dL_setTopSpeed_2 0 rfl ?_
  refine z_iload_n C dL_setTopSpeed_3 1 rfl ?_
  refine z_iload_n C dL_setTopSpeed_4 2 rfl ?_
  refine z_callV C (mX5_setTopSpeed_ok l D κ Sa Ha Hs hf ra f9 a9 b9 p9 o9 g nx ct gh σ M b n hr hv hhf hnx hct hb h1n h2n) gL_setTopSpeed_X5_setTopSpeed rfl rfl rfl hdX5_setTopSpeed ⟨(Nat.le_of_ble_eq_true rfl), (Nat.le_of_ble_eq_true rfl)⟩ 13 rfl rfl (OUTW κ oa fo) (fun u => OUTW κ oa fo ++ (kW κ Sa Ha Hs hf ra f9 a9 b9 p9 o9 u.2 (fwN nx) (mnN ct) (upS gh nx u.1))) List.perm_append_comm (fun _ => List.perm_append_comm) rfl (Nat.le_of_ble_eq_true rfl) dL_setTopSpeed_5 ⟨(Nat.le_of_ble_eq_true rfl), (Nat.le_of_ble_eq_true rfl)⟩ (fun u hu => ?_)
  refine z_i2l C dL_setTopSpeed_8 rfl ?_
  refine z_last C 0 4 rfl rfl (i := 0) (by decide) (by decide) dL_setTopSpeed_9 (OUTW κ oa (vp_updL fo 0 (((nI (σ (65 + 5 * b + 1)))).toInt64)) ++ (kW κ Sa Ha Hs hf ra f9 a9 b9 p9 o9 u.2 (fwN nx) (mnN ct) (upS gh nx u.1))) rfl ?_
  refine z_goto (tgt := 21) C dL_setTopSpeed_10 (by decide) ?_
  refine z_iconst (v := nI 0) C dL_setTopSpeed_21 (by decide) ?_
  exact zh_iret C hr9 hk u rfl hu (List.Perm.of_eq rfl) dL_setTopSpeed_22 (Nat.le_of_ble_eq_true rfl) (Nat.le_of_ble_eq_true rfl)
theorem hdL_setTopSpeed : yL_setTopSpeed.cls ≠ "java/lang/invoke/MethodHandle" ∧ yL_setTopSpeed.cls ≠ "java/lang/invoke/VarHandle" ∧ (parseMethodDescriptor yL_setTopSpeed.desc).map (fun d => d.parameters.length) = some 4 := by decide +kernel
set_option maxRecDepth 100000 in
set_option maxHeartbeats 4000000 in
theorem mL_setTopSpeed_no (l : Launch) (D : va_G) (κ : Nat → ClassId) (adK adV : Nat → Nat) (Sa : Nat → Nat) (g : Nat → Nat → Nat) (ra f9 h9 a9 b9 p9 o9 : Nat) (σ : Nat → Nat) (M : Nat) (x y : Int32) (hls : l.stackTraces = false) (hr : Rep g σ) (hv : Inv M σ) (hx : isB (σ 2) x = false) (oa : Nat) (fo : Nat → Int64) : zH (aX adK adV) l yL_setTopSpeed wsL_setTopSpeed { frames := 8, cells := 1, slots := 6, locals := 126 } D (zTy κ) [.ref (ra), .int (x), .int (y), .ref oa] (OUTW κ oa fo ++ (SW κ Sa g ++ (RC ra (Sa 0) f9 h9 a9 b9 p9 o9))) (S := Unit) (fun _ => some (.int (nI 1))) (fun _ => True) (fun _ => OUTW κ oa fo ++ (SW κ Sa g ++ (RC ra (Sa 0) f9 h9 a9 b9 p9 o9))) 1 6 := by
  refine zH_of (cc := cL_setTopSpeed) (maxL := 5) (rt := some .int) (hh := [(0, 10, 13, 19), (0, 10, 17, 21)]) [(0, .ref (ra)), (1, .int (x)), (2, .int (y)), (3, .ref (oa))] (by decide +kernel) rfl (Nat.le_of_ble_eq_true rfl) rfl ?_
  intro p e s m args below meth c A C hr9 hk htab hX
  have C : zC p s m args c cL_setTopSpeed 5 wsL_setTopSpeed RL D (zTy κ) A := C
  refine z_aload_n C dL_setTopSpeed_0 3 rfl ?_
  refine z_iconst (v := nI 0) C dL_setTopSpeed_1 (by decide) ?_
  refine z_aload_n C dL_setTopSpeed_2 0 rfl ?_
  refine z_iload_n C dL_setTopSpeed_3 1 rfl ?_
  refine z_iload_n C dL_setTopSpeed_4 2 rfl ?_
  refine zx_catchV C (aX_ok adK adV) hX (mX5_setTopSpeed_no l D κ adK adV Sa g ra f9 h9 a9 b9 p9 o9 σ M x y hls hr hv hx) gL_setTopSpeed_X5_setTopSpeed rfl rfl rfl hdX5_setTopSpeed ⟨(Nat.le_of_ble_eq_true rfl), (Nat.le_of_ble_eq_true rfl)⟩ 13 rfl rfl (OUTW κ oa fo) (fun _ => OUTW κ oa fo ++ (SW κ Sa g ++ (RC ra (Sa 0) f9 h9 a9 b9 p9 o9))) List.perm_append_comm (fun _ => List.perm_append_comm) rfl (Nat.le_of_ble_eq_true rfl) dL_setTopSpeed_5 ⟨(Nat.le_of_ble_eq_true rfl), (Nat.le_of_ble_eq_true rfl)⟩ [] ⟨0, 10, 13, 19⟩ [⟨0, 10, 17, 21⟩] htab (fun z hz => absurd hz List.not_mem_nil) (by decide) (by decide) (name := eIB) (show Cond.classLink RL 19 eIB ∈ wsL_setTopSpeed from by decide +kernel) (hX.2.2.1 _ (by simp [nCs])) (fun u q hu => ?_)
  refine z_astore C [(4, .ref (q)), (0, .ref (ra)), (1, .int (x)), (2, .int (y)), (3, .ref (oa))] dL_setTopSpeed_13 (by decide) rfl ?_
  refine z_iconst (v := nI 1) C dL_setTopSpeed_15 (by decide) ?_
  exact zh_iret C hr9 hk u rfl hu (List.Perm.of_eq rfl) dL_setTopSpeed_16 (Nat.le_of_ble_eq_true rfl) (Nat.le_of_ble_eq_true rfl)
set_option maxRecDepth 100000 in
set_option maxHeartbeats 4000000 in
theorem mL_setTopSpeed_rng (l : Launch) (D : va_G) (κ : Nat → ClassId) (adK adV : Nat → Nat) (Sa : Nat → Nat) (g : Nat → Nat → Nat) (ra f9 h9 a9 b9 p9 o9 : Nat) (σ : Nat → Nat) (M : Nat) (b : Nat) (x : Int32) (hls : l.stackTraces = false) (hr : Rep g σ) (hv : Inv M σ) (hb : b < σ 2) (hx : inI x (nI 1) (nI 5) = false) (oa : Nat) (fo : Nat → Int64) : zH (aX adK adV) l yL_setTopSpeed wsL_setTopSpeed { frames := 7, cells := 1, slots := 6, locals := 126 } D (zTy κ) [.ref (ra), .int (nI b), .int (x), .ref oa] (OUTW κ oa fo ++ (SW κ Sa g ++ (RC ra (Sa 0) f9 h9 a9 b9 p9 o9))) (S := Unit) (fun _ => some (.int (nI 2))) (fun _ => True) (fun _ => OUTW κ oa fo ++ (SW κ Sa g ++ (RC ra (Sa 0) f9 h9 a9 b9 p9 o9))) 1 6 := by
  refine zH_of (cc := cL_setTopSpeed) (maxL := 5) (rt := some .int) (hh := [(0, 10, 13, 19), (0, 10, 17, 21)]) [(0, .ref (ra)), (1, .int (nI b)), (2, .int (x)), (3, .ref (oa))] (by decide +kernel) rfl (Nat.le_of_ble_eq_true rfl) rfl ?_
  intro p e s m args below meth c A C hr9 hk htab hX
  have C : zC p s m args c cL_setTopSpeed 5 wsL_setTopSpeed RL D (zTy κ) A := C
  refine z_aload_n C dL_setTopSpeed_0 3 rfl ?_
  refine z_iconst (v := nI 0) C dL_setTopSpeed_1 (by decide) ?_
  refine z_aload_n C dL_setTopSpeed_2 0 rfl ?_
  refine z_iload_n C dL_setTopSpeed_3 1 rfl ?_
  refine z_iload_n C dL_setTopSpeed_4 2 rfl ?_
  refine zx_catchV C (aX_ok adK adV) hX (mX5_setTopSpeed_rng l D κ adK adV Sa g ra f9 h9 a9 b9 p9 o9 σ M b x hls hr hv hb hx) gL_setTopSpeed_X5_setTopSpeed rfl rfl rfl hdX5_setTopSpeed ⟨(Nat.le_of_ble_eq_true rfl), (Nat.le_of_ble_eq_true rfl)⟩ 13 rfl rfl (OUTW κ oa fo) (fun _ => OUTW κ oa fo ++ (SW κ Sa g ++ (RC ra (Sa 0) f9 h9 a9 b9 p9 o9))) List.perm_append_comm (fun _ => List.perm_append_comm) rfl (Nat.le_of_ble_eq_true rfl) dL_setTopSpeed_5 ⟨(Nat.le_of_ble_eq_true rfl), (Nat.le_of_ble_eq_true rfl)⟩ [⟨0, 10, 13, 19⟩] ⟨0, 10, 17, 21⟩ [] htab (fun z hz => by
      simp only [List.mem_cons, List.not_mem_nil, or_false] at hz
      rcases hz with rfl
      · exact Or.inr ⟨by decide, eIB, by decide +kernel, hX.2.2.2.1 (eIA, eIB) (by simp [nNs])⟩) (by decide) (by decide) (name := eIA) (show Cond.classLink RL 21 eIA ∈ wsL_setTopSpeed from by decide +kernel) (hX.2.2.1 _ (by simp [nCs])) (fun u q hu => ?_)
  refine z_astore C [(4, .ref (q)), (0, .ref (ra)), (1, .int (nI b)), (2, .int (x)), (3, .ref (oa))] dL_setTopSpeed_17 (by decide) rfl ?_
  refine z_iconst (v := nI 2) C dL_setTopSpeed_19 (by decide) ?_
  exact zh_iret C hr9 hk u rfl hu (List.Perm.of_eq rfl) dL_setTopSpeed_20 (Nat.le_of_ble_eq_true rfl) (Nat.le_of_ble_eq_true rfl)
set_option maxRecDepth 100000 in
set_option maxHeartbeats 4000000 in
theorem mL_restore_ok (l : Launch) (D : va_G) (κ : Nat → ClassId) (Sa Ha : Nat → Nat) (Hs : Nat → Nat → Nat) (hf : Nat → Option Nat) (ra f9 a9 b9 p9 o9 : Nat) (g : Nat → Nat → Nat) (nx ct : Nat) (gh : Nat → Nat → Nat → Nat) (σ : Nat → Nat) (M : Nat) (Sl : Nat → Nat) (gl : Nat → Nat → Nat) (τ : Nat → Nat) (k : Nat) (hr : Rep g σ) (hv : Inv M σ) (hhf : ∀ j, j < 10 → hf j = some (Hs j 0)) (hnx : nx < 10) (hct : ct ≤ 10) (hrl : Rep gl τ) (hvl : Inv M τ) (hk2 : k < 2) (adK adV : Nat → Nat) (oa : Nat) (fo : Nat → Int64) : zH (aX adK adV) l yL_restore wsL_restore { frames := 4, cells := 0, slots := 0, locals := 92 } D (zTy κ) [.ref ra, .int (nI k), .ref oa] (OUTW κ oa fo ++ (SW κ Sa g ++ (RC ra (Sa 0) f9 (Ha 0) a9 b9 p9 o9 ++ (LW κ (slA k a9 b9) Sl gl 1 ++ (HO κ Ha hf nx ct ++ hW κ Hs gh 10))))) (S := (Nat → Nat → Nat) × (Nat → Nat → Nat)) (fun _ => some (.int (nI 0))) (fun u => Rep u.1 σ ∧ Rep u.2 τ) (fun u => OUTW κ oa (vp_updL fo 0 (((nI (τ 0))).toInt64)) ++ (SW κ Sa u.2 ++ (RC ra (Sa 0) f9 (Ha 0) a9 b9 p9 o9 ++ (LW κ (slA k a9 b9) Sl gl 1 ++ (HO κ Ha hf (fwN nx) (mnN ct) ++ hW κ Hs (upS gh nx u.1) 10))))) 0 0 := by
  refine zH_of (cc := cL_restore) (maxL := 4) (rt := some .int) (hh := [(0, 9, 12, 19), (0, 9, 15, 13)]) [(0, .ref (ra)), (1, .int (nI k)), (2, .ref (oa))] (by decide +kernel) rfl (Nat.le_of_ble_eq_true rfl) rfl ?_
  intro p e s m args below meth c A C hr9 hk htab hX
  have C : zC p s m args c cL_restore 4 wsL_restore RL D (zTy κ) A := C
  refine z_aload_n C dL_restore_0 2 rfl ?_
  refine z_iconst (v := nI 0) C dL_restore_1 (by decide) ?_
  refine z_aload_n C dL_restore_2 0 rfl ?_
  refine z_iload_n C dL_restore_3 1 rfl ?_
  refine z_callV C (mX5_restore_ok l D κ Sa Ha Hs hf ra f9 a9 b9 p9 o9 g nx ct gh σ M Sl gl τ k hr hv hhf hnx hct hrl hvl hk2) gL_restore_X5_restore rfl rfl rfl hdX5_restore ⟨(Nat.le_of_ble_eq_true rfl), (Nat.le_of_ble_eq_true rfl)⟩ 13 rfl rfl (OUTW κ oa fo) (fun u => OUTW κ oa fo ++ (SW κ Sa u.2 ++ (RC ra (Sa 0) f9 (Ha 0) a9 b9 p9 o9 ++ (LW κ (slA k a9 b9) Sl gl 1 ++ (HO κ Ha hf (fwN nx) (mnN ct) ++ hW κ Hs (upS gh nx u.1) 10))))) List.perm_append_comm (fun _ => List.perm_append_comm) rfl (Nat.le_of_ble_eq_true rfl) dL_restore_4 ⟨(Nat.le_of_ble_eq_true rfl), (Nat.le_of_ble_eq_true rfl)⟩ (fun u hu => ?_)
  refine z_i2l C dL_restore_7 rfl ?_
  refine z_last C 0 4 rfl rfl (i := 0) (by decide) (by decide) dL_restore_8 (OUTW κ oa (vp_updL fo 0 (((nI (τ 0))).toInt64)) ++ (SW κ Sa u.2 ++ (RC ra (Sa 0) f9 (Ha 0) a9 b9 p9 o9 ++ (LW κ (slA k a9 b9) Sl gl 1 ++ (HO κ Ha hf (fwN nx) (mnN ct) ++ hW κ Hs (upS gh nx u.1) 10))))) rfl ?_
  refine z_goto (tgt := 18) C dL_restore_9 (by decide) ?_
  refine z_iconst (v := nI 0) C dL_restore_18 (by decide) ?_
  exact zh_iret C hr9 hk u rfl hu (List.Perm.of_eq rfl) dL_restore_19 (Nat.le_of_ble_eq_true rfl) (Nat.le_of_ble_eq_true rfl)
theorem hdL_restore : yL_restore.cls ≠ "java/lang/invoke/MethodHandle" ∧ yL_restore.cls ≠ "java/lang/invoke/VarHandle" ∧ (parseMethodDescriptor yL_restore.desc).map (fun d => d.parameters.length) = some 3 := by decide +kernel
set_option maxRecDepth 100000 in
set_option maxHeartbeats 4000000 in
theorem mL_restore_no (l : Launch) (D : va_G) (κ : Nat → ClassId) (adK adV : Nat → Nat) (ra c9 f9 h9 a9 b9 p9 o9 : Nat) (x : Int32) (hls : l.stackTraces = false) (hx : inI x (nI 0) (nI 1) = false) (oa : Nat) (fo : Nat → Int64) : zH (aX adK adV) l yL_restore wsL_restore { frames := 8, cells := 1, slots := 6, locals := 125 } D (zTy κ) [.ref (ra), .int (x), .ref oa] (OUTW κ oa fo ++ (RC ra c9 f9 h9 a9 b9 p9 o9)) (S := Unit) (fun _ => some (.int (nI 1))) (fun _ => True) (fun _ => OUTW κ oa fo ++ (RC ra c9 f9 h9 a9 b9 p9 o9)) 1 6 := by
  refine zH_of (cc := cL_restore) (maxL := 4) (rt := some .int) (hh := [(0, 9, 12, 19), (0, 9, 15, 13)]) [(0, .ref (ra)), (1, .int (x)), (2, .ref (oa))] (by decide +kernel) rfl (Nat.le_of_ble_eq_true rfl) rfl ?_
  intro p e s m args below meth c A C hr9 hk htab hX
  have C : zC p s m args c cL_restore 4 wsL_restore RL D (zTy κ) A := C
  refine z_aload_n C dL_restore_0 2 rfl ?_
  refine z_iconst (v := nI 0) C dL_restore_1 (by decide) ?_
  refine z_aload_n C dL_restore_2 0 rfl ?_
  refine z_iload_n C dL_restore_3 1 rfl ?_
  refine zx_catchV C (aX_ok adK adV) hX (mX5_restore_no l D κ adK adV ra c9 f9 h9 a9 b9 p9 o9 x hls hx) gL_restore_X5_restore rfl rfl rfl hdX5_restore ⟨(Nat.le_of_ble_eq_true rfl), (Nat.le_of_ble_eq_true rfl)⟩ 0 rfl rfl (OUTW κ oa fo) (fun _ => OUTW κ oa fo ++ (RC ra c9 f9 h9 a9 b9 p9 o9)) List.perm_append_comm (fun _ => List.perm_append_comm) rfl (Nat.le_of_ble_eq_true rfl) dL_restore_4 ⟨(Nat.le_of_ble_eq_true rfl), (Nat.le_of_ble_eq_true rfl)⟩ [] ⟨0, 9, 12, 19⟩ [⟨0, 9, 15, 13⟩] htab (fun z hz => absurd hz List.not_mem_nil) (by decide) (by decide) (name := eIB) (show Cond.classLink RL 19 eIB ∈ wsL_restore from by decide +kernel) (hX.2.2.1 _ (by simp [nCs])) (fun u q hu => ?_)
  refine z_astore_n C [(3, .ref (q)), (0, .ref (ra)), (1, .int (x)), (2, .ref (oa))] dL_restore_12 (by decide) rfl ?_
  refine z_iconst (v := nI 1) C dL_restore_13 (by decide) ?_
  exact zh_iret C hr9 hk u rfl hu (List.Perm.of_eq rfl) dL_restore_14 (Nat.le_of_ble_eq_true rfl) (Nat.le_of_ble_eq_true rfl)
set_option maxRecDepth 100000 in
set_option maxHeartbeats 4000000 in
theorem mL_restore_emp (l : Launch) (D : va_G) (κ : Nat → ClassId) (adK adV : Nat → Nat) (ra c9 f9 h9 a9 b9 p9 o9 : Nat) (x9 k : Nat) (hls : l.stackTraces = false) (hk2 : k < 2) (oa : Nat) (fo : Nat → Int64) : zH (aX adK adV) l yL_restore wsL_restore { frames := 7, cells := 1, slots := 6, locals := 125 } D (zTy κ) [.ref (ra), .int (nI k), .ref oa] (OUTW κ oa fo ++ (RC ra c9 f9 h9 a9 b9 p9 o9 ++ (SO (slA k a9 b9) x9 0))) (S := Unit) (fun _ => some (.int (nI 2))) (fun _ => True) (fun _ => OUTW κ oa fo ++ (RC ra c9 f9 h9 a9 b9 p9 o9 ++ (SO (slA k a9 b9) x9 0))) 1 6 := by
  refine zH_of (cc := cL_restore) (maxL := 4) (rt := some .int) (hh := [(0, 9, 12, 19), (0, 9, 15, 13)]) [(0, .ref (ra)), (1, .int (nI k)), (2, .ref (oa))] (by decide +kernel) rfl (Nat.le_of_ble_eq_true rfl) rfl ?_
  intro p e s m args below meth c A C hr9 hk htab hX
  have C : zC p s m args c cL_restore 4 wsL_restore RL D (zTy κ) A := C
  refine z_aload_n C dL_restore_0 2 rfl ?_
  refine z_iconst (v := nI 0) C dL_restore_1 (by decide) ?_
  refine z_aload_n C dL_restore_2 0 rfl ?_
  refine z_iload_n C dL_restore_3 1 rfl ?_
  refine zx_catchV C (aX_ok adK adV) hX (mX5_restore_emp l D κ adK adV ra c9 f9 h9 a9 b9 p9 o9 x9 k hls hk2) gL_restore_X5_restore rfl rfl rfl hdX5_restore ⟨(Nat.le_of_ble_eq_true rfl), (Nat.le_of_ble_eq_true rfl)⟩ 0 rfl rfl (OUTW κ oa fo) (fun _ => OUTW κ oa fo ++ (RC ra c9 f9 h9 a9 b9 p9 o9 ++ (SO (slA k a9 b9) x9 0))) List.perm_append_comm (fun _ => List.perm_append_comm) rfl (Nat.le_of_ble_eq_true rfl) dL_restore_4 ⟨(Nat.le_of_ble_eq_true rfl), (Nat.le_of_ble_eq_true rfl)⟩ [⟨0, 9, 12, 19⟩] ⟨0, 9, 15, 13⟩ [] htab (fun z hz => by
      simp only [List.mem_cons, List.not_mem_nil, or_false] at hz
      rcases hz with rfl
      · exact Or.inr ⟨by decide, eIB, by decide +kernel, hX.2.2.2.1 (eIS, eIB) (by simp [nNs])⟩) (by decide) (by decide) (name := eIS) (show Cond.classLink RL 13 eIS ∈ wsL_restore from by decide +kernel) (hX.2.2.1 _ (by simp [nCs])) (fun u q hu => ?_)
  refine z_astore_n C [(3, .ref (q)), (0, .ref (ra)), (1, .int (nI k)), (2, .ref (oa))] dL_restore_15 (by decide) rfl ?_
  refine z_iconst (v := nI 2) C dL_restore_16 (by decide) ?_
  exact zh_iret C hr9 hk u rfl hu (List.Perm.of_eq rfl) dL_restore_17 (Nat.le_of_ble_eq_true rfl) (Nat.le_of_ble_eq_true rfl)
set_option maxRecDepth 100000 in
set_option maxHeartbeats 4000000 in
theorem mL_undo_ok (l : Launch) (D : va_G) (κ : Nat → ClassId) (Sa Ha : Nat → Nat) (Hs : Nat → Nat → Nat) (hf : Nat → Option Nat) (ra f9 a9 b9 p9 o9 : Nat) (g : Nat → Nat → Nat) (nx ct : Nat) (gh : Nat → Nat → Nat → Nat) (M : Nat) (τ : Nat → Nat) (hhf : ∀ j, j < 10 → hf j = some (Hs j 0)) (hnx : nx < 10) (hct : ct ≤ 10) (hc1 : 1 ≤ ct) (hrh : Rep (gh (bkN nx)) τ) (hvh : Inv M τ) (adK adV : Nat → Nat) (oa : Nat) (fo : Nat → Int64) : zH (aX adK adV) l yL_undo wsL_undo { frames := 4, cells := 0, slots := 0, locals := 91 } D (zTy κ) [.ref ra, .ref oa] (OUTW κ oa fo ++ (kW κ Sa Ha Hs hf ra f9 a9 b9 p9 o9 g nx ct gh)) (S := Nat → Nat → Nat) (fun _ => some (.int (nI 0))) (fun u => Rep u τ) (fun u => OUTW κ oa (vp_updL fo 0 (((nI (ct - 1))).toInt64)) ++ (kW κ Sa Ha Hs hf ra f9 a9 b9 p9 o9 u (bkN nx) (ct - 1) gh)) 0 0 := by
  refine zH_of (cc := cL_undo) (maxL := 3) (rt := some .int) (hh := [(0, 8, 11, 13)]) [(0, .ref (ra)), (1, .ref (oa))] (by decide +kernel) rfl (Nat.le_of_ble_eq_true rfl) rfl ?_
  intro p e s m args below meth c A C hr9 hk htab hX
  have C : zC p s m args c cL_undo 3 wsL_undo RL D (zTy κ) A := C
  refine z_aload_n C dL_undo_0 1 rfl ?_
  refine z_iconst (v := nI 0) C dL_undo_1 (by decide) ?_
  refine z_aload_n C dL_undo_2 0 rfl ?_
  refine z_callV C (mX5_undo_ok l D κ Sa Ha Hs hf ra f9 a9 b9 p9 o9 g nx ct gh M τ hhf hnx hct hc1 hrh hvh) gL_undo_X5_undo rfl rfl rfl hdX5_undo ⟨(Nat.le_of_ble_eq_true rfl), (Nat.le_of_ble_eq_true rfl)⟩ 13 rfl rfl (OUTW κ oa fo) (fun u => OUTW κ oa fo ++ (kW κ Sa Ha Hs hf ra f9 a9 b9 p9 o9 u (bkN nx) (ct - 1) gh)) List.perm_append_comm (fun _ => List.perm_append_comm) rfl (Nat.le_of_ble_eq_true rfl) dL_undo_3 ⟨(Nat.le_of_ble_eq_true rfl), (Nat.le_of_ble_eq_true rfl)⟩ (fun u hu => ?_)
  refine z_i2l C dL_undo_6 rfl ?_
  refine z_last C 0 4 rfl rfl (i := 0) (by decide) (by decide) dL_undo_7 (OUTW κ oa (vp_updL fo 0 (((nI (ct - 1))).toInt64)) ++ (kW κ Sa Ha Hs hf ra f9 a9 b9 p9 o9 u (bkN nx) (ct - 1) gh)) rfl ?_
  refine z_goto (tgt := 14) C dL_undo_8 (by decide) ?_
  refine z_iconst (v := nI 0) C dL_undo_14 (by decide) ?_
  exact zh_iret C hr9 hk u rfl hu (List.Perm.of_eq rfl) dL_undo_15 (Nat.le_of_ble_eq_true rfl) (Nat.le_of_ble_eq_true rfl)
theorem hdL_undo : yL_undo.cls ≠ "java/lang/invoke/MethodHandle" ∧ yL_undo.cls ≠ "java/lang/invoke/VarHandle" ∧ (parseMethodDescriptor yL_undo.desc).map (fun d => d.parameters.length) = some 2 := by decide +kernel
set_option maxRecDepth 100000 in
set_option maxHeartbeats 4000000 in
theorem mL_undo_no (l : Launch) (D : va_G) (κ : Nat → ClassId) (adK adV : Nat → Nat) (ra c9 f9 a9 b9 p9 o9 nx : Nat) (Ha : Nat → Nat) (hf : Nat → Option Nat) (hls : l.stackTraces = false) (oa : Nat) (fo : Nat → Int64) : zH (aX adK adV) l yL_undo wsL_undo { frames := 7, cells := 1, slots := 6, locals := 123 } D (zTy κ) [.ref (ra), .ref oa] (OUTW κ oa fo ++ (RC ra c9 f9 (Ha 0) a9 b9 p9 o9 ++ (HO κ Ha hf nx 0))) (S := Unit) (fun _ => some (.int (nI 1))) (fun _ => True) (fun _ => OUTW κ oa fo ++ (RC ra c9 f9 (Ha 0) a9 b9 p9 o9 ++ (HO κ Ha hf nx 0))) 1 6 := by
  refine zH_of (cc := cL_undo) (maxL := 3) (rt := some .int) (hh := [(0, 8, 11, 13)]) [(0, .ref (ra)), (1, .ref (oa))] (by decide +kernel) rfl (Nat.le_of_ble_eq_true rfl) rfl ?_
  intro p e s m args below meth c A C hr9 hk htab hX
  have C : zC p s m args c cL_undo 3 wsL_undo RL D (zTy κ) A := C
  refine z_aload_n C dL_undo_0 1 rfl ?_
  refine z_iconst (v := nI 0) C dL_undo_1 (by decide) ?_
  refine z_aload_n C dL_undo_2 0 rfl ?_
  refine zx_catchV C (aX_ok adK adV) hX (mX5_undo_no l D κ adK adV ra c9 f9 a9 b9 p9 o9 nx Ha hf hls) gL_undo_X5_undo rfl rfl rfl hdX5_undo ⟨(Nat.le_of_ble_eq_true rfl), (Nat.le_of_ble_eq_true rfl)⟩ 0 rfl rfl (OUTW κ oa fo) (fun _ => OUTW κ oa fo ++ (RC ra c9 f9 (Ha 0) a9 b9 p9 o9 ++ (HO κ Ha hf nx 0))) List.perm_append_comm (fun _ => List.perm_append_comm) rfl (Nat.le_of_ble_eq_true rfl) dL_undo_3 ⟨(Nat.le_of_ble_eq_true rfl), (Nat.le_of_ble_eq_true rfl)⟩ [] ⟨0, 8, 11, 13⟩ [] htab (fun z hz => absurd hz List.not_mem_nil) (by decide) (by decide) (name := eIS) (show Cond.classLink RL 13 eIS ∈ wsL_undo from by decide +kernel) (hX.2.2.1 _ (by simp [nCs])) (fun u q hu => ?_)
  refine z_astore_n C [(2, .ref (q)), (0, .ref (ra)), (1, .ref (oa))] dL_undo_11 (by decide) rfl ?_
  refine z_iconst (v := nI 1) C dL_undo_12 (by decide) ?_
  exact zh_iret C hr9 hk u rfl hu (List.Perm.of_eq rfl) dL_undo_13 (Nat.le_of_ble_eq_true rfl) (Nat.le_of_ble_eq_true rfl)
set_option maxRecDepth 100000 in
set_option maxHeartbeats 4000000 in
theorem mL_save_ok (l : Launch) (D : va_G) (κ : Nat → ClassId) (Sa : Nat → Nat) (g : Nat → Nat → Nat) (ra f9 h9 a9 b9 p9 o9 : Nat) (σ : Nat → Nat) (M : Nat) (Sl : Nat → Nat) (gl : Nat → Nat → Nat) (fl k : Nat) (hr : Rep g σ) (hv : Inv M σ) (hk2 : k < 2) (adK adV : Nat → Nat) (oa : Nat) (fo : Nat → Int64) : zH (aX adK adV) l yL_save wsL_save { frames := 3, cells := 0, slots := 0, locals := 70 } D (zTy κ) [.ref ra, .int (nI k), .ref oa] (OUTW κ oa fo ++ (SW κ Sa g ++ (RC ra (Sa 0) f9 h9 a9 b9 p9 o9 ++ LW κ (slA k a9 b9) Sl gl fl))) (S := Nat → Nat → Nat) (fun _ => some (.int (nI 0))) (fun u => Rep u σ) (fun u => OUTW κ oa (vp_updL fo 0 (((nI (σ 0))).toInt64)) ++ (SW κ Sa g ++ (RC ra (Sa 0) f9 h9 a9 b9 p9 o9 ++ LW κ (slA k a9 b9) Sl u 1))) 0 0 := by
  refine zH_of (cc := cL_save) (maxL := 4) (rt := some .int) (hh := [(0, 9, 12, 19)]) [(0, .ref (ra)), (1, .int (nI k)), (2, .ref (oa))] (by decide +kernel) rfl (Nat.le_of_ble_eq_true rfl) rfl ?_
  intro p e s m args below meth c A C hr9 hk htab hX
  have C : zC p s m args c cL_save 4 wsL_save RL D (zTy κ) A := C
  refine z_aload_n C dL_save_0 2 rfl ?_
  refine z_iconst (v := nI 0) C dL_save_1 (by decide) ?_
  refine z_aload_n C dL_save_2 0 rfl ?_
  refine z_iload_n C dL_save_3 1 rfl ?_
  refine z_callV C (mX5_save_ok l D κ Sa g ra f9 h9 a9 b9 p9 o9 σ M Sl gl fl k hr hv hk2) gL_save_X5_save rfl rfl rfl hdX5_save ⟨(Nat.le_of_ble_eq_true rfl), (Nat.le_of_ble_eq_true rfl)⟩ 13 rfl rfl (OUTW κ oa fo) (fun u => OUTW κ oa fo ++ (SW κ Sa g ++ (RC ra (Sa 0) f9 h9 a9 b9 p9 o9 ++ LW κ (slA k a9 b9) Sl u 1))) List.perm_append_comm (fun _ => List.perm_append_comm) rfl (Nat.le_of_ble_eq_true rfl) dL_save_4 ⟨(Nat.le_of_ble_eq_true rfl), (Nat.le_of_ble_eq_true rfl)⟩ (fun u hu => ?_)
  refine z_i2l C dL_save_7 rfl ?_
  refine z_last C 0 4 rfl rfl (i := 0) (by decide) (by decide) dL_save_8 (OUTW κ oa (vp_updL fo 0 (((nI (σ 0))).toInt64)) ++ (SW κ Sa g ++ (RC ra (Sa 0) f9 h9 a9 b9 p9 o9 ++ LW κ (slA k a9 b9) Sl u 1))) rfl ?_
  refine z_goto (tgt := 15) C dL_save_9 (by decide) ?_
  refine z_iconst (v := nI 0) C dL_save_15 (by decide) ?_
  exact zh_iret C hr9 hk u rfl hu (List.Perm.of_eq rfl) dL_save_16 (Nat.le_of_ble_eq_true rfl) (Nat.le_of_ble_eq_true rfl)
theorem hdL_save : yL_save.cls ≠ "java/lang/invoke/MethodHandle" ∧ yL_save.cls ≠ "java/lang/invoke/VarHandle" ∧ (parseMethodDescriptor yL_save.desc).map (fun d => d.parameters.length) = some 3 := by decide +kernel
set_option maxRecDepth 100000 in
set_option maxHeartbeats 4000000 in
theorem mL_save_no (l : Launch) (D : va_G) (κ : Nat → ClassId) (adK adV : Nat → Nat) (ra c9 f9 h9 a9 b9 p9 o9 : Nat) (x : Int32) (hls : l.stackTraces = false) (hx : inI x (nI 0) (nI 1) = false) (oa : Nat) (fo : Nat → Int64) : zH (aX adK adV) l yL_save wsL_save { frames := 8, cells := 1, slots := 6, locals := 125 } D (zTy κ) [.ref (ra), .int (x), .ref oa] (OUTW κ oa fo ++ (RC ra c9 f9 h9 a9 b9 p9 o9)) (S := Unit) (fun _ => some (.int (nI 1))) (fun _ => True) (fun _ => OUTW κ oa fo ++ (RC ra c9 f9 h9 a9 b9 p9 o9)) 1 6 := by
  refine zH_of (cc := cL_save) (maxL := 4) (rt := some .int) (hh := [(0, 9, 12, 19)]) [(0, .ref (ra)), (1, .int (x)), (2, .ref (oa))] (by decide +kernel) rfl (Nat.le_of_ble_eq_true rfl) rfl ?_
  intro p e s m args below meth c A C hr9 hk htab hX
  have C : zC p s m args c cL_save 4 wsL_save RL D (zTy κ) A := C
  refine z_aload_n C dL_save_0 2 rfl ?_
  refine z_iconst (v := nI 0) C dL_save_1 (by decide) ?_
  refine z_aload_n C dL_save_2 0 rfl ?_
  refine z_iload_n C dL_save_3 1 rfl ?_
  refine zx_catchV C (aX_ok adK adV) hX (mX5_save_no l D κ adK adV ra c9 f9 h9 a9 b9 p9 o9 x hls hx) gL_save_X5_save rfl rfl rfl hdX5_save ⟨(Nat.le_of_ble_eq_true rfl), (Nat.le_of_ble_eq_true rfl)⟩ 0 rfl rfl (OUTW κ oa fo) (fun _ => OUTW κ oa fo ++ (RC ra c9 f9 h9 a9 b9 p9 o9)) List.perm_append_comm (fun _ => List.perm_append_comm) rfl (Nat.le_of_ble_eq_true rfl) dL_save_4 ⟨(Nat.le_of_ble_eq_true rfl), (Nat.le_of_ble_eq_true rfl)⟩ [] ⟨0, 9, 12, 19⟩ [] htab (fun z hz => absurd hz List.not_mem_nil) (by decide) (by decide) (name := eIB) (show Cond.classLink RL 19 eIB ∈ wsL_save from by decide +kernel) (hX.2.2.1 _ (by simp [nCs])) (fun u q hu => ?_)
  refine z_astore_n C [(3, .ref (q)), (0, .ref (ra)), (1, .int (x)), (2, .ref (oa))] dL_save_12 (by decide) rfl ?_
  refine z_iconst (v := nI 1) C dL_save_13 (by decide) ?_
  exact zh_iret C hr9 hk u rfl hu (List.Perm.of_eq rfl) dL_save_14 (Nat.le_of_ble_eq_true rfl) (Nat.le_of_ble_eq_true rfl)
set_option maxRecDepth 100000 in
set_option maxHeartbeats 4000000 in
theorem mL_writeTrain_ok (l : Launch) (D : va_G) (κ : Nat → ClassId) (Sa Oa : Nat → Nat) (g : Nat → Nat → Nat) (ra f9 h9 a9 b9 p9 n : Nat) (ot : Nat → Nat) (σ : Nat → Nat) (M : Nat) (b : Nat) (hr : Rep g σ) (hv : Inv M σ) (hb : b < σ 2) (adK adV : Nat → Nat) (oa : Nat) (fo : Nat → Int64) : zH (aX adK adV) l yL_writeTrain wsL_writeTrain { frames := 3, cells := 0, slots := 0, locals := 64 } D (zTy κ) [.ref ra, .int (nI b), .ref oa] (OUTW κ oa fo ++ (SW κ Sa g ++ (RC ra (Sa 0) f9 h9 a9 b9 p9 (Oa 0) ++ OW κ Oa n ot))) (S := Unit) (fun _ => some (.int (nI 0))) (fun _ => True) (fun _ => OUTW κ oa (vp_updL fo 0 (((nI (wTrn σ (ot, 0) b).2)).toInt64)) ++ (SW κ Sa g ++ (RC ra (Sa 0) f9 h9 a9 b9 p9 (Oa 0) ++ OW κ Oa (wTrn σ (ot, 0) b).2 (wTrn σ (ot, 0) b).1))) 0 0 := by
  refine zH_of (cc := cL_writeTrain) (maxL := 4) (rt := some .int) (hh := [(0, 9, 12, 19)]) [(0, .ref (ra)), (1, .int (nI b)), (2, .ref (oa))] (by decide +kernel) rfl (Nat.le_of_ble_eq_true rfl) rfl ?_
  intro p e s m args below meth c A C hr9 hk htab hX
  have C : zC p s m args c cL_writeTrain 4 wsL_writeTrain RL D (zTy κ) A := C
  refine z_aload_n C dL_writeTrain_0 2 rfl ?_
  refine z_iconst (v := nI 0) C dL_writeTrain_1 (by decide) ?_
  refine z_aload_n C dL_writeTrain_2 0 rfl ?_
  refine z_iload_n C dL_writeTrain_3 1 rfl ?_
  refine z_callV C (mX5_writeTrain_ok l D κ Sa Oa g ra f9 h9 a9 b9 p9 n ot σ M b hr hv hb) gL_writeTrain_X5_writeTrain rfl rfl rfl hdX5_writeTrain ⟨(Nat.le_of_ble_eq_true rfl), (Nat.le_of_ble_eq_true rfl)⟩ 13 rfl rfl (OUTW κ oa fo) (fun _ => OUTW κ oa fo ++ (SW κ Sa g ++ (RC ra (Sa 0) f9 h9 a9 b9 p9 (Oa 0) ++ OW κ Oa (wTrn σ (ot, 0) b).2 (wTrn σ (ot, 0) b).1))) List.perm_append_comm (fun _ => List.perm_append_comm) rfl (Nat.le_of_ble_eq_true rfl) dL_writeTrain_4 ⟨(Nat.le_of_ble_eq_true rfl), (Nat.le_of_ble_eq_true rfl)⟩ (fun u hu => ?_)
  refine z_i2l C dL_writeTrain_7 rfl ?_
  refine z_last C 0 4 rfl rfl (i := 0) (by decide) (by decide) dL_writeTrain_8 (OUTW κ oa (vp_updL fo 0 (((nI (wTrn σ (ot, 0) b).2)).toInt64)) ++ (SW κ Sa g ++ (RC ra (Sa 0) f9 h9 a9 b9 p9 (Oa 0) ++ OW κ Oa (wTrn σ (ot, 0) b).2 (wTrn σ (ot, 0) b).1))) rfl ?_
  refine z_goto (tgt := 15) C dL_writeTrain_9 (by decide) ?_
  refine z_iconst (v := nI 0) C dL_writeTrain_15 (by decide) ?_
  exact zh_iret C hr9 hk u rfl hu (List.Perm.of_eq rfl) dL_writeTrain_16 (Nat.le_of_ble_eq_true rfl) (Nat.le_of_ble_eq_true rfl)
theorem hdL_writeTrain : yL_writeTrain.cls ≠ "java/lang/invoke/MethodHandle" ∧ yL_writeTrain.cls ≠ "java/lang/invoke/VarHandle" ∧ (parseMethodDescriptor yL_writeTrain.desc).map (fun d => d.parameters.length) = some 3 := by decide +kernel
set_option maxRecDepth 100000 in
set_option maxHeartbeats 4000000 in
theorem mL_writeTrain_no (l : Launch) (D : va_G) (κ : Nat → ClassId) (adK adV : Nat → Nat) (Sa : Nat → Nat) (g : Nat → Nat → Nat) (ra f9 h9 a9 b9 p9 o9 : Nat) (σ : Nat → Nat) (M : Nat) (x : Int32) (hls : l.stackTraces = false) (hr : Rep g σ) (hv : Inv M σ) (hx : isB (σ 2) x = false) (oa : Nat) (fo : Nat → Int64) : zH (aX adK adV) l yL_writeTrain wsL_writeTrain { frames := 8, cells := 1, slots := 6, locals := 125 } D (zTy κ) [.ref (ra), .int (x), .ref oa] (OUTW κ oa fo ++ (SW κ Sa g ++ (RC ra (Sa 0) f9 h9 a9 b9 p9 o9))) (S := Unit) (fun _ => some (.int (nI 1))) (fun _ => True) (fun _ => OUTW κ oa fo ++ (SW κ Sa g ++ (RC ra (Sa 0) f9 h9 a9 b9 p9 o9))) 1 6 := by
  refine zH_of (cc := cL_writeTrain) (maxL := 4) (rt := some .int) (hh := [(0, 9, 12, 19)]) [(0, .ref (ra)), (1, .int (x)), (2, .ref (oa))] (by decide +kernel) rfl (Nat.le_of_ble_eq_true rfl) rfl ?_
  intro p e s m args below meth c A C hr9 hk htab hX
  have C : zC p s m args c cL_writeTrain 4 wsL_writeTrain RL D (zTy κ) A := C
  refine z_aload_n C dL_writeTrain_0 2 rfl ?_
  refine z_iconst (v := nI 0) C dL_writeTrain_1 (by decide) ?_
  refine z_aload_n C dL_writeTrain_2 0 rfl ?_
  refine z_iload_n C dL_writeTrain_3 1 rfl ?_
  refine zx_catchV C (aX_ok adK adV) hX (mX5_writeTrain_no l D κ adK adV Sa g ra f9 h9 a9 b9 p9 o9 σ M x hls hr hv hx) gL_writeTrain_X5_writeTrain rfl rfl rfl hdX5_writeTrain ⟨(Nat.le_of_ble_eq_true rfl), (Nat.le_of_ble_eq_true rfl)⟩ 13 rfl rfl (OUTW κ oa fo) (fun _ => OUTW κ oa fo ++ (SW κ Sa g ++ (RC ra (Sa 0) f9 h9 a9 b9 p9 o9))) List.perm_append_comm (fun _ => List.perm_append_comm) rfl (Nat.le_of_ble_eq_true rfl) dL_writeTrain_4 ⟨(Nat.le_of_ble_eq_true rfl), (Nat.le_of_ble_eq_true rfl)⟩ [] ⟨0, 9, 12, 19⟩ [] htab (fun z hz => absurd hz List.not_mem_nil) (by decide) (by decide) (name := eIB) (show Cond.classLink RL 19 eIB ∈ wsL_writeTrain from by decide +kernel) (hX.2.2.1 _ (by simp [nCs])) (fun u q hu => ?_)
  refine z_astore_n C [(3, .ref (q)), (0, .ref (ra)), (1, .int (x)), (2, .ref (oa))] dL_writeTrain_12 (by decide) rfl ?_
  refine z_iconst (v := nI 1) C dL_writeTrain_13 (by decide) ?_
  exact zh_iret C hr9 hk u rfl hu (List.Perm.of_eq rfl) dL_writeTrain_14 (Nat.le_of_ble_eq_true rfl) (Nat.le_of_ble_eq_true rfl)
set_option maxRecDepth 100000 in
set_option maxHeartbeats 4000000 in
theorem mL_outputByte_ok (l : Launch) (D : va_G) (κ : Nat → ClassId) (Oa : Nat → Nat) (ra c9 f9 h9 a9 b9 p9 n : Nat) (ot : Nat → Nat) (k : Nat) (hk0 : k < n) (hn64 : n ≤ 64) (adK adV : Nat → Nat) (oa : Nat) (fo : Nat → Int64) : zH (aX adK adV) l yL_outputByte wsL_outputByte { frames := 1, cells := 0, slots := 0, locals := 21 } D (zTy κ) [.ref ra, .int (nI k), .ref oa] (OUTW κ oa fo ++ (RC ra c9 f9 h9 a9 b9 p9 (Oa 0) ++ (OW κ Oa n ot))) (S := Unit) (fun _ => some (.int (nI 0))) (fun _ => True) (fun _ => OUTW κ oa (vp_updL fo 0 (((nI (ot k))).toInt64)) ++ (RC ra c9 f9 h9 a9 b9 p9 (Oa 0) ++ (OW κ Oa n ot))) 0 0 := by
  refine zH_of (cc := cL_outputByte) (maxL := 4) (rt := some .int) (hh := [(0, 9, 12, 19)]) [(0, .ref (ra)), (1, .int (nI k)), (2, .ref (oa))] (by decide +kernel) rfl (Nat.le_of_ble_eq_true rfl) rfl ?_
  intro p e s m args below meth c A C hr9 hk htab hX
  have C : zC p s m args c cL_outputByte 4 wsL_outputByte RL D (zTy κ) A := C
  refine z_aload_n C dL_outputByte_0 2 rfl ?_
  refine z_iconst (v := nI 0) C dL_outputByte_1 (by decide) ?_
  refine z_aload_n C dL_outputByte_2 0 rfl ?_
  refine z_iload_n C dL_outputByte_3 1 rfl ?_
  refine z_callV C (mX5_outputByte_ok l D κ Oa ra c9 f9 h9 a9 b9 p9 n ot k hk0 hn64) gL_outputByte_X5_outputByte rfl rfl rfl hdX5_outputByte ⟨(Nat.le_of_ble_eq_true rfl), (Nat.le_of_ble_eq_true rfl)⟩ 0 rfl rfl (OUTW κ oa fo) (fun _ => OUTW κ oa fo ++ (RC ra c9 f9 h9 a9 b9 p9 (Oa 0) ++ (OW κ Oa n ot))) List.perm_append_comm (fun _ => List.perm_append_comm) rfl (Nat.le_of_ble_eq_true rfl) dL_outputByte_4 ⟨(Nat.le_of_ble_eq_true rfl), (Nat.le_of_ble_eq_true rfl)⟩ (fun u hu => ?_)
  refine z_i2l C dL_outputByte_7 rfl ?_
  refine z_last C 0 4 rfl rfl (i := 0) (by decide) (by decide) dL_outputByte_8 (OUTW κ oa (vp_updL fo 0 (((nI (ot k))).toInt64)) ++ (RC ra c9 f9 h9 a9 b9 p9 (Oa 0) ++ (OW κ Oa n ot))) rfl ?_
  refine z_goto (tgt := 15) C dL_outputByte_9 (by decide) ?_
  refine z_iconst (v := nI 0) C dL_outputByte_15 (by decide) ?_
  exact zh_iret C hr9 hk u rfl hu (List.Perm.of_eq rfl) dL_outputByte_16 (Nat.le_of_ble_eq_true rfl) (Nat.le_of_ble_eq_true rfl)
theorem hdL_outputByte : yL_outputByte.cls ≠ "java/lang/invoke/MethodHandle" ∧ yL_outputByte.cls ≠ "java/lang/invoke/VarHandle" ∧ (parseMethodDescriptor yL_outputByte.desc).map (fun d => d.parameters.length) = some 3 := by decide +kernel
set_option maxRecDepth 100000 in
set_option maxHeartbeats 4000000 in
theorem mL_outputByte_no (l : Launch) (D : va_G) (κ : Nat → ClassId) (adK adV : Nat → Nat) (Oa : Nat → Nat) (ra c9 f9 h9 a9 b9 p9 n : Nat) (ot : Nat → Nat) (x : Int32) (hls : l.stackTraces = false) (hn64 : n ≤ 64) (hx : isB n x = false) (oa : Nat) (fo : Nat → Int64) : zH (aX adK adV) l yL_outputByte wsL_outputByte { frames := 7, cells := 1, slots := 6, locals := 103 } D (zTy κ) [.ref (ra), .int (x), .ref oa] (OUTW κ oa fo ++ (RC ra c9 f9 h9 a9 b9 p9 (Oa 0) ++ (OW κ Oa n ot))) (S := Unit) (fun _ => some (.int (nI 1))) (fun _ => True) (fun _ => OUTW κ oa fo ++ (RC ra c9 f9 h9 a9 b9 p9 (Oa 0) ++ (OW κ Oa n ot))) 1 6 := by
  refine zH_of (cc := cL_outputByte) (maxL := 4) (rt := some .int) (hh := [(0, 9, 12, 19)]) [(0, .ref (ra)), (1, .int (x)), (2, .ref (oa))] (by decide +kernel) rfl (Nat.le_of_ble_eq_true rfl) rfl ?_
  intro p e s m args below meth c A C hr9 hk htab hX
  have C : zC p s m args c cL_outputByte 4 wsL_outputByte RL D (zTy κ) A := C
  refine z_aload_n C dL_outputByte_0 2 rfl ?_
  refine z_iconst (v := nI 0) C dL_outputByte_1 (by decide) ?_
  refine z_aload_n C dL_outputByte_2 0 rfl ?_
  refine z_iload_n C dL_outputByte_3 1 rfl ?_
  refine zx_catchV C (aX_ok adK adV) hX (mX5_outputByte_no l D κ adK adV Oa ra c9 f9 h9 a9 b9 p9 n ot x hls hn64 hx) gL_outputByte_X5_outputByte rfl rfl rfl hdX5_outputByte ⟨(Nat.le_of_ble_eq_true rfl), (Nat.le_of_ble_eq_true rfl)⟩ 0 rfl rfl (OUTW κ oa fo) (fun _ => OUTW κ oa fo ++ (RC ra c9 f9 h9 a9 b9 p9 (Oa 0) ++ (OW κ Oa n ot))) List.perm_append_comm (fun _ => List.perm_append_comm) rfl (Nat.le_of_ble_eq_true rfl) dL_outputByte_4 ⟨(Nat.le_of_ble_eq_true rfl), (Nat.le_of_ble_eq_true rfl)⟩ [] ⟨0, 9, 12, 19⟩ [] htab (fun z hz => absurd hz List.not_mem_nil) (by decide) (by decide) (name := eIB) (show Cond.classLink RL 19 eIB ∈ wsL_outputByte from by decide +kernel) (hX.2.2.1 _ (by simp [nCs])) (fun u q hu => ?_)
  refine z_astore_n C [(3, .ref (q)), (0, .ref (ra)), (1, .int (x)), (2, .ref (oa))] dL_outputByte_12 (by decide) rfl ?_
  refine z_iconst (v := nI 1) C dL_outputByte_13 (by decide) ?_
  exact zh_iret C hr9 hk u rfl hu (List.Perm.of_eq rfl) dL_outputByte_14 (Nat.le_of_ble_eq_true rfl) (Nat.le_of_ble_eq_true rfl)
end LH
