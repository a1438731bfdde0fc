section NX
abbrev eIB : String := "java/lang/IndexOutOfBoundsException"
abbrev eIS : String := "java/lang/IllegalStateException"
abbrev eIA : String := "java/lang/IllegalArgumentException"
def nWs : List Cond := [.methodLinkNest RX5 9 yX4_init "PeatRailway", .methodLinkNest RX0 15 yX4_init "PeatRailway", .methodLinkNest RX5 28 yX3_init "PeatRailway", .methodLinkNest RX3 9 yX4_init "PeatRailway", .methodLinkNest RX5 38 yX2_init "PeatRailway", .methodLinkNest RX2 21 yX4_init "PeatRailway", .methodLinkNest RX5 45 yX1_init "PeatRailway"]
def nCs : List (String × String) := [(eIB, eIB), (eIS, eIS), (eIA, eIA)]
def nDw : List Cond := [.declares (Bundle.initS "java/lang/RuntimeException"), .declares (Bundle.initS "java/lang/Exception"), .declares (Bundle.initS Bundle.tN)]
def nNs : List (String × String) := [(eIB, eIS), (eIB, eIA), (eIS, eIB), (eIS, eIA), (eIA, eIB), (eIA, eIS)]
/-- what the tables say of the class's nest and of the exceptions -/
def nX : Ctx := fun _ U _ => (∀ w ∈ nWs, va_Nw w U) ∧ (∀ q ∈ nCs, va_Nw (.castable q.1 q.2) U) ∧ (∀ q ∈ nNs, va_Nc q.1 q.2 U) ∧ va_AO RX4 U ∧ ∀ w ∈ nDw, va_Nw w U
theorem nWs_nest : ∀ w ∈ nWs, ∃ a i x h, w = .methodLinkNest a i x h := by
  intro w hw
  simp only [nWs, List.mem_cons, List.not_mem_nil, or_false] at hw
  rcases hw with rfl | rfl | rfl | rfl | rfl | rfl | rfl <;> exact ⟨_, _, _, _, rfl⟩
theorem nDw_d : ∀ w ∈ nDw, ∃ x, w = .declares x := by
  intro w hw
  simp only [nDw, List.mem_cons, List.not_mem_nil, or_false] at hw
  rcases hw with rfl | rfl | rfl <;> exact ⟨_, rfl⟩
theorem nX_ok : CtxOk nX := by
  refine ⟨fun A u U H hw h => ?_, fun A U H H1 hk h => h, fun A B U H hAB h => h, fun A u U H hv h => ?_⟩
  · refine ⟨fun w h9 => ?_, fun q hq => va_Nw.warmC hw (h.2.1 q hq), fun q hq => (h.2.2.1 q hq).moved hw.alike, h.2.2.2.1.moved hw.alike, fun w h9 => ?_⟩
    · obtain ⟨a, i, x, hh, rfl⟩ := nWs_nest w h9
      exact va_Nw.warmM hw (h.1 _ h9)
    · obtain ⟨x, rfl⟩ := nDw_d w h9
      exact va_Nw.warmD hw (h.2.2.2.2 _ h9)
  · have ha : u.vm.Alike U.vm := by rw [hv]; exact Vm.Alike.refl _
    refine ⟨fun w h9 => ?_, fun q hq => va_Nw.same rfl hv.symm (h.2.1 q hq), fun q hq => (h.2.2.1 q hq).moved ha, h.2.2.2.1.moved ha, fun w h9 => ?_⟩
    · obtain ⟨a, i, x, hh, rfl⟩ := nWs_nest w h9
      exact va_Nw.same rfl hv.symm (h.1 _ h9)
    · obtain ⟨x, rfl⟩ := nDw_d w h9
      exact va_Nw.same rfl hv.symm (h.2.2.2.2 _ h9)
/-- both contexts -/
def aX (adK adV : Nat → Nat) : Ctx := fun A U H => cX adK adV A U H ∧ nX A U H
theorem aX_ok (adK adV : Nat → Nat) : CtxOk (aX adK adV) := by
  have h1 := cX_ok adK adV
  have h2 := nX_ok
  exact ⟨fun A u U H hw h => ⟨h1.1 A u U H hw h.1, h2.1 A u U H hw h.2⟩, fun A U H H1 hk h => ⟨h1.2.1 A U H H1 hk h.1, h2.2.1 A U H H1 hk h.2⟩, fun A B U H hAB h => ⟨h1.2.2.1 A B U H hAB h.1, h2.2.2.1 A B U H hAB h.2⟩, fun A u U H hv h => ⟨h1.2.2.2 A u U H hv h.1, h2.2.2.2 A u U H hv h.2⟩⟩
section NXR
variable {p : Program} {l : Launch} {e : Env} {R : Room} {s : State} {m : MethodId} {args : Array Value} {below : List Frame} {meth : Method} {c : Code} {cc : ByteArray} {nL : Nat} {Ts : List Cond} {own : String} {D : va_G} {tys : List (ClassId × FieldType)} {A : Nat → Prop} {cells slots : Nat} {Q : State → Prop} {ws : va_W} {lv : List (Nat × Value)} {pc : Nat} {st : List Value} {X : Ctx}
theorem z_new (C : zC p s m args c cc nL Ts own D tys A) {Cn : String} {T : u_T} {N ci index : Nat} (hin : ∀ w ∈ u_ws Cn T N, w ∈ Ts) (ty0 : Nat → FieldType) (hty : ∀ k, k < N → parseFieldDescriptor (T k).2.2.1 = some (ty0 k)) (hcl : Cond.classLink own index Cn ∈ Ts) (hinst : Cond.instantiable Cn N ∈ Ts) (hini : Cond.initialized Cn ∈ Ts) (hc : vwCl[ci]? = some (Cn, T, N)) {fs : List Value} (hfs : ∀ j, j < N → defaultValue (ty0 j) = vp_V fs j) (hcells : cells + 1 ≤ R.cells) (hslots : slots + N ≤ R.slots) (hdg : decode cc pc = .ok (.new index, 3))
    (k : ∀ q : Nat, zW p l e R s m args below meth c nL D A (cells + 1) (slots + N) Q (ws ++ [(q, .inr (ci, fs))]) lv (pc + 3) (.ref q :: st)) : zW p l e R s m args below meth c nL D A cells slots Q ws lv pc st := by
  intro H locs ls hP hD hS hl
  obtain ⟨hx, hb, hml, hown, hts, hK, hA⟩ := C
  exact va_new hx hb hts hin ty0 hty hown (hts _ hcl) (hts _ hinst) (hts _ hini) hK hP hD hS hA hc hfs hcells hslots hdg (fun q H1 hP1 hD1 hS1 => k q H1 locs ls hP1 hD1 hS1 hl)
theorem z_newq (C : zC p s m args c cc nL Ts own D tys A) {Cn : String} {index : Nat} (hcl : Cond.classLink own index Cn ∈ Ts) (hao : va_AO Cn s) (t0 : Nat) {cA0 : ClassId} (ht : tys[t0]? = some (cA0, .object Cn)) {N : Nat} (hN : N < 1000) (hcells : cells + 1 ≤ R.cells) (hslots : slots + N ≤ R.slots) (hdg : decode cc pc = .ok (.anewarray index, 3))
    (k : ∀ q : Nat, zW p l e R s m args below meth c nL D A (cells + 1) (slots + N) Q (ws ++ [(q, .inl (cA0, N, .inr (.inr (.inr (.inr (fun _ => none))))))]) lv (pc + 3) (.ref q :: st)) : zW p l e R s m args below meth c nL D A cells slots Q ws lv pc (.int (nI N) :: st) := by
  intro H locs ls hP hD hS hl
  obtain ⟨hx, hb, hml, hown, hts, hK, hA⟩ := C
  refine va_newq hx hb hown (hts _ hcl) hao hK hP hD hS hA (fun q => absurd ((zq_lt (by omega) (by decide : 0 < 2147483648)).mp q) (Nat.not_lt_zero _)) (nI_clamp (by omega)) (by omega) hcells hslots hdg (fun q cA H1 hK1 hP1 hD1 hS1 => ?_)
  have e1 := (hK1.2 tys.length (cA, .object Cn) (by rw [List.getElem?_append_right (Nat.le_refl _), Nat.sub_self]; rfl)).2
  have e2 := (hK.2 t0 (cA0, .object Cn) ht).2
  obtain ⟨-, -, -, -, -, f1⟩ := e1
  obtain ⟨-, -, -, -, -, f2⟩ := e2
  have e3 : cA = cA0 := Option.some.inj (f1.symm.trans f2)
  subst e3
  exact k q H1 locs ls hP1 hD1 hS1 hl
theorem z_aald (C : zC p s m args c cc nL Ts own D tys A) (q0 t0 : Nat) {a : Nat} {cA : ClassId} {Cn : String} {n : Nat} {f : Nat → Option Nat} (ha : ws[q0]? = some (a, .inl (cA, n, .inr (.inr (.inr (.inr f)))))) (ht : tys[t0]? = some (cA, .object Cn)) {i b : Nat} (hi : i < n) (hn : n < 2147483648) (hb : f i = some b) (hdg : decode cc pc = .ok (.aaload, 1)) (k : zW p l e R s m args below meth c nL D A cells slots Q ws lv (pc + 1) (.ref b :: st)) : zW p l e R s m args below meth c nL D A cells slots Q ws lv pc (.int (nI i) :: .ref a :: st) := fun H locs ls hP hD hS hl => va_aldq C.1 C.2.1 C.2.2.2.2.2.1 hP q0 t0 ha ht (vp_in_nI hi hn) hdg (by rw [nI_clamp (Nat.lt_trans hi hn), hb]; exact k H locs ls hP hD hS hl)
theorem z_aast (C : zC p s m args c cc nL Ts own D tys A) (q0 t0 qk ci : Nat) {a : Nat} {cA : ClassId} {r : vw_C} {n v : Nat} {vs : List Value} {f : Nat → Option Nat} (ha : ws[q0]? = some (a, .inl (cA, n, .inr (.inr (.inr (.inr f)))))) (ht : tys[t0]? = some (cA, .object r.1)) (hv : ws[qk]? = some (v, .inr (ci, vs))) (hc : vwCl[ci]? = some r) {i : Nat} (hi : i < n) (hn : n < 2147483648) (hdg : decode cc pc = .ok (.aastore, 1)) (ws' : va_W) (hw : ws.set q0 (a, .inl (cA, n, .inr (.inr (.inr (.inr (va_up f i (some v))))))) = ws') (k : zW p l e R s m args below meth c nL D A cells slots Q ws' lv (pc + 1) st) : zW p l e R s m args below meth c nL D A cells slots Q ws lv pc (.ref v :: .int (nI i) :: .ref a :: st) := by
  subst hw
  intro H locs ls hP hD hS hl
  refine va_astq C.1 C.2.1 C.2.2.2.2.2.1 hP hD hS q0 t0 qk ci ha ht hv hc (vp_in_nI hi hn) hdg ?_
  rw [nI_clamp (Nat.lt_trans hi hn)]
  exact fun H1 locs1 hP1 hD1 hS1 => k H1 locs1 ls hP1 hD1 hS1 hl
theorem z_ifnonnull (C : zC p s m args c cc nL Ts own D tys A) {x : Nat} {off : Int} (tgt : Nat) (hdg : decode cc pc = .ok (.ifnonnull off, 3)) (ht : (pc : Int) + off = (tgt : Int)) (k : zW p l e R s m args below meth c nL D A cells slots Q ws lv tgt st) : zW p l e R s m args below meth c nL D A cells slots Q ws lv pc (.ref x :: st) := fun H locs ls hP hD hS hl => lv_ifnonnull C.1 C.2.1 hdg ht (k H locs ls hP hD hS hl)
theorem z_ifnull (C : zC p s m args c cc nL Ts own D tys A) {x : Nat} {off : Int} (hdg : decode cc pc = .ok (.ifnull off, 3)) (k : zW p l e R s m args below meth c nL D A cells slots Q ws lv (pc + 3) st) : zW p l e R s m args below meth c nL D A cells slots Q ws lv pc (.ref x :: st) := fun H locs ls hP hD hS hl => lv_ifnull C.1 C.2.1 hdg (k H locs ls hP hD hS hl)
theorem z_last (C : zC p s m args c cc nL Ts own D tys A) (q0 t0 : Nat) {a : Nat} {cA : ClassId} {n : Nat} {f : Nat → Int64} (ha : ws[q0]? = some (a, .inl (cA, n, .inr (.inl f)))) (ht : tys[t0]? = some (cA, .long)) {i : Nat} {x : Int64} (hi : i < n) (hn : n < 2147483648) (hdg : decode cc pc = .ok (.lastore, 1)) (ws' : va_W) (hw : ws.set q0 (a, .inl (cA, n, .inr (.inl (vp_updL f i x)))) = ws') (k : zW p l e R s m args below meth c nL D A cells slots Q ws' lv (pc + 1) st) : zW p l e R s m args below meth c nL D A cells slots Q ws lv pc (.long x :: .int (nI i) :: .ref a :: st) := by
  subst hw
  intro H locs ls hP hD hS hl
  refine va_last C.1 C.2.1 C.2.2.2.2.2.1 hP hD hS q0 t0 ha ht (vp_in_nI hi hn) hdg ?_
  rw [nI_clamp (Nat.lt_trans hi hn)]
  exact fun H1 locs1 hP1 hD1 hS1 => k H1 locs1 ls hP1 hD1 hS1 hl
theorem z_lald (C : zC p s m args c cc nL Ts own D tys A) (q0 t0 : Nat) {a : Nat} {cA : ClassId} {n : Nat} {f : Nat → Int64} (ha : ws[q0]? = some (a, .inl (cA, n, .inr (.inl f)))) (ht : tys[t0]? = some (cA, .long)) {i : Nat} (hi : i < n) (hn : n < 2147483648) (hdg : decode cc pc = .ok (.laload, 1)) (k : zW p l e R s m args below meth c nL D A cells slots Q ws lv (pc + 1) (.long (f i) :: st)) : zW p l e R s m args below meth c nL D A cells slots Q ws lv pc (.int (nI i) :: .ref a :: st) := fun H locs ls hP hD hS hl => va_lald C.1 C.2.1 C.2.2.2.2.2.1 hP q0 t0 ha ht (vp_in_nI hi hn) hdg (by rw [nI_clamp (Nat.lt_trans hi hn)]; exact k H locs ls hP hD hS hl)
theorem z_callN (C : zC p s m args c cc nL Ts own D tys A) {y : MethodName} {wsy wsy' : List Cond} {rmy : Room} {wc : va_W} {b : Nat} {As : List Value} {S : Type} {ret : S → Option Value} {post : S → Prop} {w1 : S → va_W} {mc ms idx maxL : Nat} {bytes : ByteArray} {st0 : List Value}
    (hM : zM l y wsy rmy D tys (.ref b :: As) wc ret post w1 mc ms) (hret : ∀ u, ret u = none) (hG : GoodIn Ts wsy) (hw : wsy = .code y bytes maxL none :: wsy') (hrc : rmy.cells = mc) (hrs : rmy.slots = ms) {host : String} (hlk : va_Nw (.methodLinkNest own idx y host) s) (hini : Cond.initialized y.cls ∈ Ts) (him : Cond.instanceMethod y ∈ Ts) (hy1 : y.name = "<init>")
    (hd : y.cls ≠ "java/lang/invoke/MethodHandle" ∧ y.cls ≠ "java/lang/invoke/VarHandle" ∧ (parseMethodDescriptor y.desc).map (fun d => d.parameters.length) = some As.length) (hR : rmy.frames + 1 ≤ R.frames ∧ 8 + (maxL + 11) + rmy.locals ≤ R.locals)
    (wr : va_W) (ws2 : S → va_W) (hsp : ws.Perm (wc ++ wr)) (hjn : ∀ u, (w1 u ++ wr).Perm (ws2 u)) (hst : st0 = As.reverse ++ .ref b :: st) (hroom : (st.map fun v => v.category).sum ≤ 8) (hdg : decode cc pc = .ok (.invokespecial idx, 3)) (hf : cells + mc ≤ R.cells ∧ slots + ms ≤ R.slots)
    (k : ∀ u, post u → zW p l e R s m args below meth c nL D A (cells + mc) (slots + ms) Q (ws2 u) lv (pc + 3) st) : zW p l e R s m args below meth c nL D A cells slots Q ws lv pc st0 := by
  subst hst
  intro H locs ls hP hD hS hl
  obtain ⟨hx, hb, hml, hown, hts, hK, hA⟩ := C
  have hP := zp_P hsp hP
  have hD := zp_D hsp hD
  have hFc := z_free hD hS hA
  refine z_callG (va_runIN (As := As) (rest := st) ⟨hx, hb, hml, hown, hts⟩ (hM H.size) ⟨va_cnB As.length hts hG hw hrc hrs hlk (hts _ hini) hd hR, hy1, hts _ him⟩ ⟨zPr_blind _ _ _ _ _, z_pre (zp_l hP) (zd_l hD) hK⟩ rfl rfl hl.1 rfl (lv_room hroom) hdg hf) hS (fun q _ h => hFc q h) hFc (fun u t H1 locs1 ht hvm hw hB hBD hz1 hk1 hS1 => ?_)
  rw [ht] at hB
  obtain ⟨hP1, hD1⟩ := z_join hP hD hk1 hFc hB hBD
  rw [hret u]
  exact k u hw H1 locs1 ls (zp_P (hjn u) hP1) (zp_D (hjn u) hD1) hS1 hl
theorem z_callNc (C : zC p s m args c cc nL Ts own D tys A) {y : MethodName} {wsy wsy' : List Cond} {rmy : Room} {wc : va_W} {b : Nat} {As : List Value} {S : Type} {ret : S → Option Value} {post : S → Prop} {w1 : S → va_W} {mc ms idx maxL : Nat} {bytes : ByteArray} {st0 : List Value}
    (hXo : CtxOk X) (hX : X A s s.heap) (hM : zMc X l y wsy rmy D tys (.ref b :: As) wc ret post w1 mc ms) (hret : ∀ u, ret u = none) (hG : GoodIn Ts wsy) (hw : wsy = .code y bytes maxL none :: wsy') (hrc : rmy.cells = mc) (hrs : rmy.slots = ms) {host : String} (hlk : va_Nw (.methodLinkNest own idx y host) s) (hini : Cond.initialized y.cls ∈ Ts) (him : Cond.instanceMethod y ∈ Ts) (hy1 : y.name = "<init>")
    (hd : y.cls ≠ "java/lang/invoke/MethodHandle" ∧ y.cls ≠ "java/lang/invoke/VarHandle" ∧ (parseMethodDescriptor y.desc).map (fun d => d.parameters.length) = some As.length) (hR : rmy.frames + 1 ≤ R.frames ∧ 8 + (maxL + 11) + rmy.locals ≤ R.locals)
    (wr : va_W) (ws2 : S → va_W) (hsp : ws.Perm (wc ++ wr)) (hjn : ∀ u, (w1 u ++ wr).Perm (ws2 u)) (hst : st0 = As.reverse ++ .ref b :: st) (hroom : (st.map fun v => v.category).sum ≤ 8) (hdg : decode cc pc = .ok (.invokespecial idx, 3)) (hf : cells + mc ≤ R.cells ∧ slots + ms ≤ R.slots)
    (k : ∀ u, post u → zW p l e R s m args below meth c nL D A (cells + mc) (slots + ms) Q (ws2 u) lv (pc + 3) st) : zW p l e R s m args below meth c nL D A cells slots Q ws lv pc st0 := by
  subst hst
  intro H locs ls hP hD hS hl
  obtain ⟨hx, hb, hml, hown, hts, hK, hA⟩ := C
  have hP := zp_P hsp hP
  have hD := zp_D hsp hD
  have hFc := z_free hD hS hA
  refine z_callG (va_runIN (As := As) (rest := st) ⟨hx, hb, hml, hown, hts⟩ (hM H.size) ⟨va_cnB As.length hts hG hw hrc hrs hlk (hts _ hini) hd hR, hy1, hts _ him⟩ ⟨zPrc_blind hXo _ _ _ _ _, z_prec hXo hX hS hFc (zp_l hP) (zd_l hD) hK⟩ rfl rfl hl.1 rfl (lv_room hroom) hdg hf) hS (fun q _ h => hFc q h) hFc (fun u t H1 locs1 ht hvm hw hB hBD hz1 hk1 hS1 => ?_)
  rw [ht] at hB
  obtain ⟨hP1, hD1⟩ := z_join hP hD hk1 hFc hB hBD
  rw [hret u]
  exact k u hw H1 locs1 ls (zp_P (hjn u) hP1) (zp_D (hjn u) hD1) hS1 hl
theorem z_callIc (C : zC p s m args c cc nL Ts own D tys A) {y : MethodName} {wsy wsy' : List Cond} {rmy : Room} {wc : va_W} {b : Nat} {As : List Value} {S : Type} {ret : S → Option Value} {post : S → Prop} {w1 : S → va_W} {mc ms idx maxL : Nat} {bytes : ByteArray} {st0 : List Value}
    (hXo : CtxOk X) (hX : X A s s.heap) (hM : zMc X l y wsy rmy D tys (.ref b :: As) wc ret post w1 mc ms) (hret : ∀ u, ret u = none) (hG : GoodIn Ts wsy) (hw : wsy = .code y bytes maxL none :: wsy') (hrc : rmy.cells = mc) (hrs : rmy.slots = ms) (hini : Cond.initialized y.cls ∈ Ts) (hlk : Cond.methodLink own idx y ∈ Ts) (him : Cond.instanceMethod y ∈ Ts) (hy1 : y.name = "<init>")
    (hd : y.cls ≠ "java/lang/invoke/MethodHandle" ∧ y.cls ≠ "java/lang/invoke/VarHandle" ∧ (parseMethodDescriptor y.desc).map (fun d => d.parameters.length) = some As.length) (hR : rmy.frames + 1 ≤ R.frames ∧ 8 + (maxL + 11) + rmy.locals ≤ R.locals)
    (wr : va_W) (ws2 : S → va_W) (hsp : ws.Perm (wc ++ wr)) (hjn : ∀ u, (w1 u ++ wr).Perm (ws2 u)) (hst : st0 = As.reverse ++ .ref b :: st) (hroom : (st.map fun v => v.category).sum ≤ 8) (hdg : decode cc pc = .ok (.invokespecial idx, 3)) (hf : cells + mc ≤ R.cells ∧ slots + ms ≤ R.slots)
    (k : ∀ u, post u → zW p l e R s m args below meth c nL D A (cells + mc) (slots + ms) Q (ws2 u) lv (pc + 3) st) : zW p l e R s m args below meth c nL D A cells slots Q ws lv pc st0 := by
  subst hst
  intro H locs ls hP hD hS hl
  obtain ⟨hx, hb, hml, hown, hts, hK, hA⟩ := C
  have hP := zp_P hsp hP
  have hD := zp_D hsp hD
  have hFc := z_free hD hS hA
  refine z_callG (va_runI (As := As) (rest := st) ⟨hx, hb, hml, hown, hts⟩ (hM H.size) (cwI As.length hts hG hw hrc hrs (hts _ hini) (hts _ hlk) (hts _ him) hy1 hd hR) ⟨zPrc_blind hXo _ _ _ _ _, z_prec hXo hX hS hFc (zp_l hP) (zd_l hD) hK⟩ rfl rfl hl.1 rfl (lv_room hroom) hdg hf) hS (fun q _ h => hFc q h) hFc (fun u t H1 locs1 ht hvm hw hB hBD hz1 hk1 hS1 => ?_)
  rw [ht] at hB
  obtain ⟨hP1, hD1⟩ := z_join hP hD hk1 hFc hB hBD
  rw [hret u]
  exact k u hw H1 locs1 ls (zp_P (hjn u) hP1) (zp_D (hjn u) hD1) hS1 hl
/-- a world behind a throw of E0 -/
def zBx {S : Type} (D : va_G) (tys : List (ClassId × FieldType)) (E0 : String) (w1 : S → va_W) (A : Nat → Prop) : String → S → State → Prop := fun E u t => E = E0 ∧ va_P D vwCl (w1 u) t.heap ∧ va_K D vwCl tys t ∧ va_D A (w1 u)
abbrev zNo : Array Value → State → Outcome → State → Prop := fun _ _ _ _ => False
/-- a contract of a call that throws E0: from the world ws; its world behind is w1 u, post u holds -/
def zX (X : Ctx) (l : Launch) (y : MethodName) (wsw : List Cond) (rm : Room) (D : va_G) (tys : List (ClassId × FieldType)) (av : List Value) (ws : va_W) (E0 : String) {S : Type} (post : S → Prop) (w1 : S → va_W) (mc ms : Nat) : Prop :=
  ∀ sz : Nat, vx_Met l y wsw rm (zPrc X D tys av ws sz) zNo (vx_X post (zBx D tys E0 w1 (va_A ws sz)) (va_A ws sz)) mc ms (va_A ws sz)
theorem zX_of {y : MethodName} {wsw wsw' : List Cond} {rm : Room} {av : List Value} {E0 : String} {S : Type} {post : S → Prop} {w1 : S → va_W} {mc ms maxL : Nat} {rt : Option FieldType} (lv0 : List (Nat × Value)) (hpn : plainName y.cls = true) (hw : wsw = .code y cc maxL rt :: wsw') (hlen : (lg_sl av).length ≤ maxL) (hlv : lv_args 0 av = lv0)
    (body : ∀ (p : Program) (e : Env) (s : State) (m : MethodId) (args : Array Value) (below : List Frame) (meth : Method) (c : Code) (A : Nat → Prop), zC p s m args c cc maxL wsw y.cls D tys A → meth.locks = false → (∀ x ∈ c.exceptionTable.toList, False) → X A s s.heap → zW p l e rm s m args below meth c maxL D A 0 0 (vx_MQ below zNo (vx_X post (zBx D tys E0 w1 A) A) args s mc ms A) ws lv0 0 []) : zX X l y wsw rm D tys av ws E0 post w1 mc ms := by
  subst hlv
  intro sz
  refine vx_ofW (cc := cc) (maxL := maxL) (ret := rt) hpn hw ?_
  intro p e s m args below meth c s₁ B hml htab hv
  obtain ⟨rfl, hsz, hP, hK, hD0, hX⟩ := hv
  subst hsz
  have hD := hD0.self (sz := s.heap.size)
  have hl := lv_entry av (n := maxL) hlen
  rw [lg_entry_eq]
  exact body p e s m _ below meth c (va_A ws s.heap.size) ⟨B.exec, B.bytes, hml, findClass_of_methodNamed B.named, atoms_spec (ws := wsw) B.pre, hK, fun q h => Or.inr h⟩ B.notSynchronized htab hX s.heap [] _ hP hD va_S.rf hl
theorem zx_world {S : Type} {post : S → Prop} {w1 : S → va_W} {E0 : String} {H : Heap} {locs : List Loc} (C : zC p s m args c cc nL Ts own D tys A) (u : S) (hp : post u) (hP : va_P D vwCl (w1 u) H) (hD : va_D A (w1 u)) (hS : va_S A s.heap H locs) {t : State} (ha : s.vm.Alike t.vm) (hz : H.size ≤ t.heap.size) (hk : ∀ q : Nat, q < H.size → t.heap[q]? = H[q]?) : vx_X post (zBx D tys E0 w1 A) A E0 s t :=
  ⟨u, hp, ⟨rfl, hP.kept (fun k x hx => hk x.1 (hP k x hx).lt), va_K.moved ha C.2.2.2.2.2.1, hD⟩, Nat.le_trans hS.1 hz, fun q h1 h2 => (hk q (Nat.lt_of_lt_of_le h1 hS.1)).trans (hS.2.1 q h1 h2)⟩
theorem zx_throw (C : zC p s m args c cc nL Ts own D tys A) (htab : ∀ x ∈ c.exceptionTable.toList, False) (hlocks : meth.locks = false) (hls : l.stackTraces = false) {adK adV : Nat → Nat} (hX : aX adK adV A s s.heap) {S : Type} {post : S → Prop} {w1 : S → va_W} {E0 : String} {names : List String} {ik is ic mc ms : Nat} {Qc : Array Value → State → Outcome → State → Prop}
    (hcls : Bundle.fit E0 = true) (hnames : ∀ n ∈ names, Bundle.fit n = true) (hk : Cond.classLink own ik E0 ∈ Ts) (hini : Cond.initialized E0 ∈ Ts) (hat : ∀ w ∈ (vx_atS own ic E0 names).filter goodWord, w ∈ Ts) (hb : ∀ w ∈ (vx_atS own ic E0 names).filter (fun w => !goodWord w), w ∈ Cond.castable E0 E0 :: nDw) (hnc : (E0, E0) ∈ nCs) (hgood : ∀ w ∈ Cond.classLink own ik E0 :: Cond.initialized E0 :: vx_atS own ic E0 names, vx_ot w = true)
    (i : Nat) (hi : i < 28) (ho : sOwn.getD i "" = own) (hx : sIdx.getD i 0 = is)
    (d0 : decode cc pc = .ok (.new ik, 3)) (d3 : decode cc (pc + 3) = .ok (.dup, 1)) (d4 : decode cc (pc + 4) = .ok (.ldc is, 2)) (d6 : decode cc (pc + 6) = .ok (.invokespecial ic, 3)) (d9 : decode cc (pc + 9) = .ok (.athrow, 1))
    (hRframes : names.length + 3 < R.frames) (hRlocals : (st.map fun v => v.category).sum + (13 * (names.length + 1) + 43) ≤ R.locals) (hRcells : cells + 1 ≤ R.cells) (hRslots : slots + 6 ≤ R.slots) (hc : cells + 1 ≤ mc) (hs : slots + 6 ≤ ms)
    (u : S) (hp : post u) (hw : ws.Perm (w1 u)) : zW p l e R s m args below meth c nL D A cells slots (vx_MQ below Qc (vx_X post (zBx D tys E0 w1 A) A) args s mc ms A) ws lv pc st := by
  intro H locs ls hP hD hS hl
  have C9 := C
  obtain ⟨hx9, hb9, hml, hown, hts, hK, hA⟩ := C9
  subst ho; subst hx
  refine vx_throwS hx9 hb9 hls hown hcls hnames (hts _ hk) (hts _ hini) (hX.1.2.2.2.2.2 i hi) (vx_hat (B := Cond.castable E0 E0 :: nDw) (fun w h => hts w (hat w h)) hb (vx_c (va_Nw.use rfl (hX.2.2.1 _ hnc)) (fun w h => by
    obtain ⟨x, rfl⟩ := nDw_d w h
    exact va_Nw.use rfl (hX.2.2.2.2.2 _ h)))) hgood hX.1.2.2.1 hX.1.2.2.2.1 hS (hl.1.trans hml.symm) d0 d3 d4 d6 d9 (fun x h => (htab x h).elim) hRframes hRlocals hRcells hRslots hlocks (fun t ha hz hk => zx_world C u hp (zp_P hw hP) (zp_D hw hD) hS ha hz hk) hS.2.2 hc hs
theorem zx_throwW (C : zC p s m args c cc nL Ts own D tys A) (htab : ∀ x ∈ c.exceptionTable.toList, False) (hlocks : meth.locks = false) (hls : l.stackTraces = false) {adK adV : Nat → Nat} (hX : aX adK adV A s s.heap) {S : Type} {post : S → Prop} {w1 : S → va_W} {E0 : String} {names : List String} {ik is ic mc ms : Nat} {Qc : Array Value → State → Outcome → State → Prop}
    (hcls : Bundle.fit E0 = true) (hnames : ∀ n ∈ names, Bundle.fit n = true) (hk : Cond.classLink own ik E0 ∈ Ts) (hini : Cond.initialized E0 ∈ Ts) (hat : ∀ w ∈ (vx_atS own ic E0 names).filter goodWord, w ∈ Ts) (hb : ∀ w ∈ (vx_atS own ic E0 names).filter (fun w => !goodWord w), w ∈ Cond.castable E0 E0 :: nDw) (hnc : (E0, E0) ∈ nCs) (hgood : ∀ w ∈ Cond.classLink own ik E0 :: Cond.initialized E0 :: vx_atS own ic E0 names, vx_ot w = true)
    (i : Nat) (hi : i < 28) (ho : sOwn.getD i "" = own) (hx : sIdx.getD i 0 = is)
    (d0 : decode cc pc = .ok (.new ik, 3)) (d3 : decode cc (pc + 3) = .ok (.dup, 1)) (d4 : decode cc (pc + 4) = .ok (.ldc_w is, 3)) (d7 : decode cc (pc + 7) = .ok (.invokespecial ic, 3)) (d10 : decode cc (pc + 10) = .ok (.athrow, 1))
    (hRframes : names.length + 3 < R.frames) (hRlocals : (st.map fun v => v.category).sum + (13 * (names.length + 1) + 43) ≤ R.locals) (hRcells : cells + 1 ≤ R.cells) (hRslots : slots + 6 ≤ R.slots) (hc : cells + 1 ≤ mc) (hs : slots + 6 ≤ ms)
    (u : S) (hp : post u) (hw : ws.Perm (w1 u)) : zW p l e R s m args below meth c nL D A cells slots (vx_MQ below Qc (vx_X post (zBx D tys E0 w1 A) A) args s mc ms A) ws lv pc st := by
  intro H locs ls hP hD hS hl
  have C9 := C
  obtain ⟨hx9, hb9, hml, hown, hts, hK, hA⟩ := C9
  subst ho; subst hx
  refine vx_throwSW hx9 hb9 hls hown hcls hnames (hts _ hk) (hts _ hini) (hX.1.2.2.2.2.2 i hi) (vx_hat (B := Cond.castable E0 E0 :: nDw) (fun w h => hts w (hat w h)) hb (vx_c (va_Nw.use rfl (hX.2.2.1 _ hnc)) (fun w h => by
    obtain ⟨x, rfl⟩ := nDw_d w h
    exact va_Nw.use rfl (hX.2.2.2.2.2 _ h)))) hgood hX.1.2.2.1 hX.1.2.2.2.1 hS (hl.1.trans hml.symm) d0 d3 d4 d7 d10 (fun x h => (htab x h).elim) hRframes hRlocals hRcells hRslots hlocks (fun t ha hz hk => zx_world C u hp (zp_P hw hP) (zp_D hw hD) hS ha hz hk) hS.2.2 hc hs
/-- a call that throws, and nothing here catches it -/
theorem zx_callV (C : zC p s m args c cc nL Ts own D tys A) (htab : ∀ x ∈ c.exceptionTable.toList, False) (hlocks : meth.locks = false) {y : MethodName} {wsy wsy' : List Cond} {rmy : Room} {wc : va_W} {b : Nat} {As : List Value} {E0 : String} {S S2 : Type} {post : S → Prop} {w1 : S → va_W} {post2 : S2 → Prop} {w2 : S2 → va_W} {mc ms mc2 ms2 idx maxL ci : Nat} {Cn : String} {T : u_T} {N : Nat} {bytes : ByteArray} {rt : Option FieldType} {fs st0 : List Value} {Qc : Array Value → State → Outcome → State → Prop}
    (hXo : CtxOk X) (hX : X A s s.heap) (hM : zX X l y wsy rmy D tys (.ref b :: As) wc E0 post w1 mc ms) (hG : GoodIn Ts (wsV own idx Cn y wsy)) (hw : wsy = .code y bytes maxL rt :: wsy') (hrc : rmy.cells = mc) (hrs : rmy.slots = ms)
    (hd : y.cls = Cn ∧ y.cls ≠ "java/lang/invoke/MethodHandle" ∧ y.cls ≠ "java/lang/invoke/VarHandle" ∧ (parseMethodDescriptor y.desc).map (fun d => d.parameters.length) = some As.length) (hR : rmy.frames + 1 ≤ R.frames ∧ 8 + (maxL + 11) + rmy.locals ≤ R.locals)
    (q0 : Nat) (he : wc[q0]? = some (b, .inr (ci, fs))) (hc : vwCl[ci]? = some (Cn, T, N)) (wr : va_W) (hsp : ws.Perm (wc ++ wr)) (hst : st0 = As.reverse ++ .ref b :: st) (hroom : (st.map fun v => v.category).sum ≤ 8) (hdg : decode cc pc = .ok (.invokevirtual idx, 3)) (hf : cells + mc ≤ R.cells ∧ slots + ms ≤ R.slots) (hcm : cells + mc ≤ mc2) (hsm : slots + ms ≤ ms2)
    (k : ∀ u, post u → ∃ u2, post2 u2 ∧ (w1 u ++ wr).Perm (w2 u2)) : zW p l e R s m args below meth c nL D A cells slots (vx_MQ below Qc (vx_X post2 (zBx D tys E0 w2 A) A) args s mc2 ms2 A) ws lv pc st0 := by
  subst hst
  intro H locs ls hP hD hS hl
  have C9 := C
  obtain ⟨hx, hb, hml, hown, hts, hK, hA⟩ := C9
  have hP := zp_P hsp hP
  have hD := zp_D hsp hD
  have hFc := z_free hD hS hA
  intro T9 hT9 X9
  rcases vx_runV (As := As) (rest := st) (g := F0 m pc ls (As.reverse ++ .ref b :: st)) ⟨hx, hb, hml, hown, hts⟩ (hM H.size) (cwV As.length hts hG hw hrc hrs hd hR) ⟨zPrc_blind hXo _ _ _ _ _, va_recv hK (zp_l hP) hc he, z_prec hXo hX hS hFc (zp_l hP) (zd_l hD) hK⟩ rfl rfl hl.1 rfl (lv_room hroom) hdg hf T9 hT9 X9 with ⟨v, st₀, t, T', L, h0, X', hL, e1, e2, hno, sg⟩ | ⟨q, st₀, t, T', L, E, ce, h0, X', hL, e1, e2, ⟨u, hp, ⟨hE, hbP, hbK, hbD⟩, hF⟩, hce, hcv, hcl, sg⟩
  · exact hno.elim
  · subst hE
    obtain ⟨k1, k2, k3⟩ := vx_keep h0 e1 hS (fun q _ h => hFc q h) hFc hL hF
    rw [← e1] at hbP hce
    obtain ⟨hP1, hD1⟩ := z_join hP hD k2 hFc hbP hbD
    obtain ⟨u2, hu2, hpm⟩ := k u hp
    obtain ⟨t2, a1, b1⟩ := vx_out (Qc := Qc) (XC := vx_X post2 (zBx D tys E w2 A) A) (rest := st) (ls := ls) (pc := pc) (mc := mc2) (ms := ms2) (args := args) (fun x h => (htab x h).elim) hlocks hce hcv hcl (fun t ht ha => zx_world C u2 hu2 (zp_P hpm hP1) (zp_D hpm hD1) k3 ha (by rw [ht]; exact Nat.le_refl _) (fun q _ => by rw [ht])) k3.2.2 hcm hsm T' rfl X'
    exact ⟨t2, sg.trans a1, b1⟩
/-- a call that throws E0, caught here -/
theorem zx_catchV (C : zC p s m args c cc nL Ts own D tys A) {y : MethodName} {wsy wsy' : List Cond} {rmy : Room} {wc : va_W} {b : Nat} {As : List Value} {E0 name : String} {S : Type} {post : S → Prop} {w1 : S → va_W} {mc ms idx maxL ci : Nat} {Cn : String} {T : u_T} {N : Nat} {bytes : ByteArray} {rt : Option FieldType} {fs st0 : List Value}
    (hXo : CtxOk X) (hX : X A s s.heap) (hM : zX X l y wsy rmy D tys (.ref b :: As) wc E0 post w1 mc ms) (hG : GoodIn Ts (wsV own idx Cn y wsy)) (hw : wsy = .code y bytes maxL rt :: wsy') (hrc : rmy.cells = mc) (hrs : rmy.slots = ms)
    (hd : y.cls = Cn ∧ y.cls ≠ "java/lang/invoke/MethodHandle" ∧ y.cls ≠ "java/lang/invoke/VarHandle" ∧ (parseMethodDescriptor y.desc).map (fun d => d.parameters.length) = some As.length) (hR : rmy.frames + 1 ≤ R.frames ∧ 8 + (maxL + 11) + rmy.locals ≤ R.locals)
    (q0 : Nat) (he : wc[q0]? = some (b, .inr (ci, fs))) (hc : vwCl[ci]? = some (Cn, T, N)) (wr : va_W) (ws2 : S → va_W) (hsp : ws.Perm (wc ++ wr)) (hjn : ∀ u, (w1 u ++ wr).Perm (ws2 u)) (hst : st0 = As.reverse ++ .ref b :: st) (hroom : (st.map fun v => v.category).sum ≤ 8) (hdg : decode cc pc = .ok (.invokevirtual idx, 3)) (hf : cells + mc ≤ R.cells ∧ slots + ms ≤ R.slots)
    (pre : List ExceptionTableEntry) (x : ExceptionTableEntry) (suf : List ExceptionTableEntry) (hsplit : c.exceptionTable.toList = pre ++ x :: suf)
    (hpass : ∀ z ∈ pre, covers z pc = false ∨ (z.catchType ≠ 0 ∧ ∃ nm : String, Cond.classLink own z.catchType nm ∈ Ts ∧ va_Nc E0 nm s)) (hx : covers x pc = true) (h0 : x.catchType ≠ 0) (hlink : Cond.classLink own x.catchType name ∈ Ts) (hcast : va_Nw (.castable E0 name) s)
    (k : ∀ u q, post u → zW p l e R s m args below meth c nL D A (cells + mc) (slots + ms) Q (ws2 u) lv x.handlerPc [.ref q]) : zW p l e R s m args below meth c nL D A cells slots Q ws lv pc st0 := by
  subst hst
  intro H locs ls hP hD hS hl
  have C9 := C
  obtain ⟨hx9, hb, hml, hown, hts, hK, hA⟩ := C9
  have hP := zp_P hsp hP
  have hD := zp_D hsp hD
  have hFc := z_free hD hS hA
  intro T9 hT9 X9
  rcases vx_runV (As := As) (rest := st) (g := F0 m pc ls (As.reverse ++ .ref b :: st)) ⟨hx9, hb, hml, hown, hts⟩ (hM H.size) (cwV As.length hts hG hw hrc hrs hd hR) ⟨zPrc_blind hXo _ _ _ _ _, va_recv hK (zp_l hP) hc he, z_prec hXo hX hS hFc (zp_l hP) (zd_l hD) hK⟩ rfl rfl hl.1 rfl (lv_room hroom) hdg hf T9 hT9 X9 with ⟨v, st₀, t, T', L, h0, X', hL, e1, e2, hno, sg⟩ | ⟨q, st₀, t, T', L, E, ce, h0', X', hL, e1, e2, ⟨u, hp, ⟨hE, hbP, hbK, hbD⟩, hF⟩, hce, hcv, hcl, sg⟩
  · exact hno.elim
  · subst hE
    obtain ⟨k1, k2, k3⟩ := vx_keep h0' e1 hS (fun q _ h => hFc q h) hFc hL hF
    rw [← e1] at hbP hce
    obtain ⟨hP1, hD1⟩ := z_join hP hD k2 hFc hbP hbD
    obtain ⟨t2, a1, b1⟩ := vx_catch (rest := st) (pc := pc) (ls := ls) hown pre x suf hsplit (fun z hz => (hpass z hz).imp id (fun h => ⟨h.1, h.2.choose, hts _ h.2.choose_spec.1, h.2.choose_spec.2⟩)) hx h0 (hts _ hlink) (va_Nw.use rfl hcast) hce hcv hcl (k u q hp T'.heap (locs ++ L) ls (zp_P (hjn u) hP1) (zp_D (hjn u) hD1) k3 hl) T' rfl X'
    exact ⟨t2, sg.trans a1, b1⟩
end NXR
end NX
