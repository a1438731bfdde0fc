section ZC
def sLen : List Nat := [101, 7, 5, 4, 5, 5, 4, 6, 6, 24, 14, 21, 13, 13, 18, 33, 20, 23, 29, 19, 15, 18, 12, 28, 26, 7, 6, 7]
def sByt : List (List Int32) := [[114, 97, 105, 108, 119, 97, 121, 59, 32, 98, 108, 111, 99, 107, 32, 54, 32, 50, 59, 32, 98, 108, 111, 99, 107, 32, 52, 32, 55, 32, 98, 101, 110, 100, 32, 51, 59, 32, 98, 108, 111, 99, 107, 32, 56, 32, 48, 59, 32, 98, 108, 111, 99, 107, 32, 53, 32, 56, 59, 32, 116, 114, 97, 105, 110, 32, 48, 32, 53, 32, 52, 59, 32, 116, 114, 97, 105, 110, 32, 51, 32, 56, 32, 53, 59, 32, 112, 117, 108, 108, 32, 49, 59, 32, 116, 105, 99, 107, 115, 32, 51],
  [114, 97, 105, 108, 119, 97, 121],
  [98, 108, 111, 99, 107],
  [98, 101, 110, 100],
  [116, 114, 97, 105, 110],
  [116, 105, 99, 107, 115],
  [112, 117, 108, 108],
  [100, 97, 110, 103, 101, 114],
  [114, 101, 112, 97, 105, 114],
  [116, 104, 101, 32, 105, 110, 112, 117, 116, 32, 98, 117, 102, 102, 101, 114, 32, 105, 115, 32, 102, 117, 108, 108],
  [110, 111, 32, 115, 117, 99, 104, 32, 108, 101, 110, 103, 116, 104],
  [116, 104, 101, 32, 116, 101, 120, 116, 32, 104, 97, 115, 32, 97, 110, 32, 101, 114, 114, 111, 114],
  [110, 111, 32, 115, 117, 99, 104, 32, 98, 108, 111, 99, 107],
  [110, 111, 32, 115, 117, 99, 104, 32, 116, 114, 97, 105, 110],
  [116, 105, 99, 107, 115, 32, 111, 117, 116, 32, 111, 102, 32, 114, 97, 110, 103, 101],
  [116, 104, 101, 32, 116, 105, 99, 107, 32, 110, 117, 109, 98, 101, 114, 32, 119, 111, 117, 108, 100, 32, 101, 120, 99, 101, 101, 100, 32, 57, 57, 57, 57],
  [116, 104, 101, 114, 101, 32, 105, 115, 32, 97, 110, 32, 111, 98, 115, 116, 97, 99, 108, 101],
  [116, 104, 101, 32, 115, 105, 103, 110, 97, 108, 32, 105, 115, 32, 97, 116, 32, 100, 97, 110, 103, 101, 114],
  [116, 104, 101, 114, 101, 32, 105, 115, 32, 97, 32, 116, 114, 97, 105, 110, 32, 105, 110, 32, 116, 104, 101, 32, 98, 108, 111, 99, 107],
  [119, 97, 103, 111, 110, 115, 32, 111, 117, 116, 32, 111, 102, 32, 114, 97, 110, 103, 101],
  [116, 111, 111, 32, 109, 97, 110, 121, 32, 119, 97, 103, 111, 110, 115],
  [115, 112, 101, 101, 100, 32, 111, 117, 116, 32, 111, 102, 32, 114, 97, 110, 103, 101],
  [110, 111, 32, 115, 117, 99, 104, 32, 115, 108, 111, 116],
  [110, 111, 116, 104, 105, 110, 103, 32, 105, 115, 32, 115, 97, 118, 101, 100, 32, 105, 110, 32, 116, 104, 101, 32, 115, 108, 111, 116],
  [116, 104, 101, 114, 101, 32, 105, 115, 32, 110, 111, 32, 99, 104, 97, 110, 103, 101, 32, 116, 111, 32, 117, 110, 100, 111],
  [59, 98, 108, 111, 99, 107, 32],
  [32, 98, 101, 110, 100, 32],
  [59, 116, 114, 97, 105, 110, 32]]
def sOwn : List String := ["PeatRailway", "PeatRailway$Parser", "PeatRailway$Parser", "PeatRailway$Parser", "PeatRailway$Parser", "PeatRailway$Parser", "PeatRailway$Parser", "PeatRailway$Parser", "PeatRailway$Parser", "PeatRailway", "PeatRailway", "PeatRailway", "PeatRailway", "PeatRailway", "PeatRailway", "PeatRailway", "PeatRailway", "PeatRailway", "PeatRailway", "PeatRailway", "PeatRailway", "PeatRailway", "PeatRailway", "PeatRailway", "PeatRailway", "PeatRailwayLaw", "PeatRailwayLaw", "PeatRailwayLaw"]
def sIdx : List Nat := [50, 70, 84, 128, 89, 94, 106, 115, 120, 78, 92, 97, 266, 268, 190, 212, 217, 222, 224, 226, 228, 230, 270, 239, 247, 72, 87, 89]
def sTxt : List String := ["railway; block 6 2; block 4 7 bend 3; block 8 0; block 5 8; train 0 5 4; train 3 8 5; pull 1; ticks 3", "railway", "block", "bend", "train", "ticks", "pull", "danger", "repair", "the input buffer is full", "no such length", "the text has an error", "no such block", "no such train", "ticks out of range", "the tick number would exceed 9999", "there is an obstacle", "the signal is at danger", "there is a train in the block", "wagons out of range", "too many wagons", "speed out of range", "no such slot", "nothing is saved in the slot", "there is no change to undo", ";block ", " bend ", ";train "]
def sCh (i k : Nat) : Nat := ((sByt.getD i []).getD k 0).toNatClampNeg
theorem sc_all : ∀ i, i < 28 → sLen.getD i 0 = (sByt.getD i []).length ∧ sLen.getD i 0 < 200 ∧ ∀ k, k < sLen.getD i 0 → (sByt.getD i []).getD k 0 = nI (sCh i k) ∧ sCh i k < 128 := by decide +kernel
theorem sc_ch : ∀ k, k < 128 → (nI k &&& 255).toUInt32 % 65536 = (nI k).toUInt32 ∧ ((nI k &&& 255).toUInt32 % 65536).toInt32 = nI k ∧ narrow .char (.int (nI k)) = .int (nI k) := by decide +kernel
abbrev Ctx : Type := (Nat → Prop) → State → Heap → Prop
def CtxOk (X : Ctx) : Prop := (∀ (A : Nat → Prop) (u U : State) (H : Heap), u.WarmedH U.vm → X A u H → X A U H) ∧ (∀ (A : Nat → Prop) (U : State) (H H1 : Heap), (∀ a : Nat, a < H.size → ¬ A a → H1[a]? = H[a]?) → X A U H → X A U H1) ∧ (∀ (A B : Nat → Prop) (U : State) (H : Heap), (∀ q, B q → A q) → X A U H → X B U H) ∧ (∀ (A : Nat → Prop) (u U : State) (H : Heap), U.vm = u.vm → X A u H → X A U H)
/-- the literals, and the statics that the machine reads -/
def cX (adK adV : Nat → Nat) : Ctx := fun A U H => va_Z "java/lang/String" "COMPACT_STRINGS" "Z" (.int 1) A U H ∧ vx_Zq "jdk/internal/util/Preconditions" "SIOOBE_FORMATTER" "Ljava/util/function/BiFunction;" A U H ∧ vx_Zq Bundle.tN "UNASSIGNED_STACK" Bundle.steD A U H ∧ vx_Zq Bundle.tN "SUPPRESSED_SENTINEL" Bundle.listD A U H ∧ vk_S 28 sLen sByt adK adV A U H ∧ ∀ i, i < 28 → vk_R (sOwn.getD i "") (sIdx.getD i 0) (sTxt.getD i "") (adK i) U
theorem cX_ok (adK adV : Nat → Nat) : CtxOk (cX adK adV) := by
  refine ⟨fun A u U H hw h => ?_, fun A U H H1 hk h => ?_, fun A B U H hAB h => ?_, fun A u U H hv h => ?_⟩
  · exact ⟨h.1.moved hw.alike, h.2.1.moved hw.alike, h.2.2.1.moved hw.alike, h.2.2.2.1.moved hw.alike, h.2.2.2.2.1.moved hw.alike, fun i hi => (h.2.2.2.2.2 i hi).warm hw⟩
  · exact ⟨h.1.kept hk, h.2.1.kept hk, h.2.2.1.kept hk, h.2.2.2.1.kept hk, h.2.2.2.2.1.kept hk, h.2.2.2.2.2⟩
  · exact ⟨h.1.narrow hAB, h.2.1.narrow hAB, h.2.2.1.narrow hAB, h.2.2.2.1.narrow hAB, h.2.2.2.2.1.narrow hAB, h.2.2.2.2.2⟩
  · have ha : u.vm.Alike U.vm := by rw [hv]; exact Vm.Alike.refl _
    exact ⟨h.1.moved ha, h.2.1.moved ha, h.2.2.1.moved ha, h.2.2.2.1.moved ha, h.2.2.2.2.1.moved ha, fun i hi => (h.2.2.2.2.2 i hi).same hv⟩
def zPrc (X : Ctx) (D : va_G) (tys : List (ClassId × FieldType)) (av : List Value) (ws : va_W) (sz : Nat) : Array Value → State → Prop := va_Pc av (fun U => U.heap.size = sz ∧ va_P D vwCl ws U.heap ∧ va_K D vwCl tys U ∧ va_D (fun _ => True) ws ∧ X (va_A ws sz) U U.heap)
/-- a contract in a context -/
def zMc (X : Ctx) (l : Launch) (y : MethodName) (wsw : List Cond) (rm : Room) (D : va_G) (tys : List (ClassId × FieldType)) (av : List Value) (ws : va_W) {S : Type} (ret : S → Option Value) (post : S → Prop) (w1 : S → va_W) (mc ms : Nat) : Prop :=
  ∀ sz : Nat, Met l y wsw rm (zPrc X D tys av ws sz) (zPo D tys ret post w1 (va_A ws sz)) mc ms (va_A ws sz)
theorem zPrc_blind {X : Ctx} (hX : CtxOk X) (D : va_G) (tys : List (ClassId × FieldType)) (av : List Value) (ws : va_W) (sz : Nat) : FrameBlind (zPrc X D tys av ws sz) := fun a U g mk q => by
  obtain ⟨q0, q1, qP, qK, qD, qX⟩ := q
  exact ⟨q0, q1, qP, va_K.moved (u := U) (U := U.calling g mk a) (Vm.Alike.refl U.vm) qK, qD, hX.2.2.2 _ U (U.calling g mk a) _ rfl qX⟩
section ZX
variable {p : Program} {l : Launch} {e : Env} {R : Room} {s : State} {m : MethodId} {args : Array Value} {below : List Frame} {meth : Method} {c : Code} {cc : ByteArray} {nL : Nat} {Ts : List Cond} {own : String} {D : va_G} {tys : List (ClassId × FieldType)} {A : Nat → Prop} {cells slots : Nat} {Q : State → Prop} {ws : va_W} {lv : List (Nat × Value)} {pc : Nat} {st : List Value} {X : Ctx}
theorem zMc_of {y : MethodName} {wsw wsw' : List Cond} {rm : Room} {av : List Value} {S : Type} {ret : S → Option Value} {post : S → Prop} {w1 : S → va_W} {mc ms maxL : Nat} {rt : Option FieldType} (lv0 : List (Nat × Value)) (hpn : plainName y.cls = true) (hw : wsw = .code y cc maxL rt :: wsw') (hlen : (lg_sl av).length ≤ maxL) (hlv : lv_args 0 av = lv0)
    (body : ∀ (p : Program) (e : Env) (s : State) (m : MethodId) (args : Array Value) (below : List Frame) (meth : Method) (c : Code) (A : Nat → Prop), zC p s m args c cc maxL wsw y.cls D tys A → meth.sig.returnType = rt → meth.locks = false → meth.name = y.name → X A s s.heap → zW p l e rm s m args below meth c maxL D A 0 0 (MQ below (zPo D tys ret post w1 A) args s mc ms A) ws lv0 0 []) : zMc X l y wsw rm D tys av ws ret post w1 mc ms := by
  subst hlv
  intro sz
  refine Met.ofW (cc := cc) (maxL := maxL) (ret := rt) hpn hw ?_
  intro p e s m args below meth c s₁ B hml hv
  obtain ⟨rfl, hsz, hP, hK, hD0, hX⟩ := hv
  subst hsz
  have hD := hD0.self (sz := s.heap.size)
  have hl := lv_entry av (n := maxL) hlen
  rw [lg_entry_eq]
  exact body p e s m _ below meth c (va_A ws s.heap.size) ⟨B.exec, B.bytes, hml, findClass_of_methodNamed B.named, atoms_spec (ws := wsw) B.pre, hK, fun q h => Or.inr h⟩ B.returns B.notSynchronized (name_of_methodNamed B.named B.method).1 hX s.heap [] _ hP hD va_S.rf hl
theorem z_prec {av : List Value} {wc : va_W} {H : Heap} {locs : List Loc} (hXo : CtxOk X) (hX : X A s s.heap) (hS : va_S A s.heap H locs) (hFc : ∀ q, va_A wc H.size q → A q) (hP : va_P D vwCl wc H) (hD : va_D A wc) (hK : va_K D vwCl tys s) : ∀ U : State, U.heap = H → s.WarmedH U.vm → zPrc X D tys av wc H.size av.toArray U := fun U hU hW => ⟨rfl, by rw [hU], by rw [hU]; exact hP, va_K.moved hW.alike hK, hD.weaken (fun _ _ _ _ => trivial), by
  rw [hU]
  exact hXo.1 _ _ _ _ hW (hXo.2.2.1 _ _ _ _ hFc (hXo.2.1 _ _ _ _ hS.2.1 hX))⟩
theorem z_callVc (C : zC p s m args c cc nL Ts own D tys A) {y : MethodName} {wsy wsy' : List Cond} {rmy : Room} {wc : va_W} {b : Nat} {As : List Value} {S : Type} {ret : S → Option Value} {post : S → Prop} {w1 : S → va_W} {mc ms idx maxL ci : Nat} {Cn : String} {T : u_T} {N : Nat} {bytes : ByteArray} {rt : Option FieldType} {fs st0 : List Value}
    (hXo : CtxOk X) (hX : X A s s.heap) (hM : zMc X l y wsy rmy D tys (.ref b :: As) wc ret post w1 mc ms) (hG : GoodIn Ts (wsV own idx Cn y wsy)) (hw : wsy = .code y bytes maxL rt :: wsy') (hrc : rmy.cells = mc) (hrs : rmy.slots = ms)
    (hd : y.cls = Cn ∧ y.cls ≠ "java/lang/invoke/MethodHandle" ∧ y.cls ≠ "java/lang/invoke/VarHandle" ∧ (parseMethodDescriptor y.desc).map (fun d => d.parameters.length) = some As.length) (hR : rmy.frames + 1 ≤ R.frames ∧ 8 + (maxL + 11) + rmy.locals ≤ R.locals)
    (q0 : Nat) (he : wc[q0]? = some (b, .inr (ci, fs))) (hc : vwCl[ci]? = some (Cn, T, N)) (wr : va_W) (ws2 : S → va_W) (hsp : ws.Perm (wc ++ wr)) (hjn : ∀ u, (w1 u ++ wr).Perm (ws2 u)) (hst : st0 = As.reverse ++ .ref b :: st) (hroom : (st.map fun v => v.category).sum ≤ 8) (hdg : decode cc pc = .ok (.invokevirtual idx, 3)) (hf : cells + mc ≤ R.cells ∧ slots + ms ≤ R.slots)
    (k : ∀ u, post u → zW p l e R s m args below meth c nL D A (cells + mc) (slots + ms) Q (ws2 u) lv (pc + 3) ((ret u).toList ++ st)) : zW p l e R s m args below meth c nL D A cells slots Q ws lv pc st0 := by
  subst hst
  intro H locs ls hP hD hS hl
  obtain ⟨hx, hb, hml, hown, hts, hK, hA⟩ := C
  have hP := zp_P hsp hP
  have hD := zp_D hsp hD
  have hFc := z_free hD hS hA
  refine z_callG (va_runV (As := As) (rest := st) ⟨hx, hb, hml, hown, hts⟩ (hM H.size) (cwV As.length hts hG hw hrc hrs hd hR) ⟨zPrc_blind hXo _ _ _ _ _, va_recv hK (zp_l hP) hc he, z_prec hXo hX hS hFc (zp_l hP) (zd_l hD) hK⟩ rfl rfl hl.1 rfl (lv_room hroom) hdg hf) hS (fun q _ h => hFc q h) hFc (fun u t H1 locs1 ht hvm hw hB hBD hz1 hk1 hS1 => ?_)
  rw [ht] at hB
  obtain ⟨hP1, hD1⟩ := z_join hP hD hk1 hFc hB hBD
  exact k u hw H1 locs1 ls (zp_P (hjn u) hP1) (zp_D (hjn u) hD1) hS1 hl
theorem z_callSc (C : zC p s m args c cc nL Ts own D tys A) {y : MethodName} {wsy wsy' : List Cond} {rmy : Room} {wc : va_W} {As : List Value} {S : Type} {ret : S → Option Value} {post : S → Prop} {w1 : S → va_W} {mc ms idx maxL : Nat} {bytes : ByteArray} {rt : Option FieldType} {st0 : List Value}
    (hXo : CtxOk X) (hX : X A s s.heap) (hM : zMc X l y wsy rmy D tys As wc ret post w1 mc ms) (hG : GoodIn Ts (va_wsS own idx y wsy)) (hw : wsy = .code y bytes maxL rt :: wsy') (hrc : rmy.cells = mc) (hrs : rmy.slots = ms)
    (hd : y.cls ≠ "java/lang/invoke/MethodHandle" ∧ y.cls ≠ "java/lang/invoke/VarHandle" ∧ (parseMethodDescriptor y.desc).map (fun d => d.parameters.length) = some As.length) (hR : rmy.frames + 1 ≤ R.frames ∧ 8 + (maxL + 11) + rmy.locals ≤ R.locals)
    (wr : va_W) (ws2 : S → va_W) (hsp : ws.Perm (wc ++ wr)) (hjn : ∀ u, (w1 u ++ wr).Perm (ws2 u)) (hst : st0 = As.reverse ++ st) (hroom : (st.map fun v => v.category).sum ≤ 8) (hdg : decode cc pc = .ok (.invokestatic idx, 3)) (hf : cells + mc ≤ R.cells ∧ slots + ms ≤ R.slots)
    (k : ∀ u, post u → zW p l e R s m args below meth c nL D A (cells + mc) (slots + ms) Q (ws2 u) lv (pc + 3) ((ret u).toList ++ st)) : zW p l e R s m args below meth c nL D A cells slots Q ws lv pc st0 := by
  subst hst
  intro H locs ls hP hD hS hl
  obtain ⟨hx, hb, hml, hown, hts, hK, hA⟩ := C
  have hP := zp_P hsp hP
  have hD := zp_D hsp hD
  have hFc := z_free hD hS hA
  refine z_callG (va_runS (As := As) (rest := st) ⟨hx, hb, hml, hown, hts⟩ (hM H.size) (va_cwS As.length hts hG hw hrc hrs hd hR) ⟨zPrc_blind hXo _ _ _ _ _, z_prec hXo hX hS hFc (zp_l hP) (zd_l hD) hK⟩ rfl rfl hl.1 rfl (lv_room hroom) hdg hf) hS (fun q _ h => hFc q h) hFc (fun u t H1 locs1 ht hvm hw hB hBD hz1 hk1 hS1 => ?_)
  rw [ht] at hB
  obtain ⟨hP1, hD1⟩ := z_join hP hD hk1 hFc hB hBD
  exact k u hw H1 locs1 ls (zp_P (hjn u) hP1) (zp_D (hjn u) hD1) hS1 hl
theorem z_callT (C : zC p s m args c cc nL Ts own D tys A) {y : MethodName} {wsy wsy' : List Cond} {rmy : Room} {wc : va_W} {b : Nat} {As : List Value} {S : Type} {ret : S → Option Value} {post : S → Prop} {w1 : S → va_W} {mc ms idx maxL : Nat} {Cn : String} {bytes : ByteArray} {rt : Option FieldType} {st0 : List Value}
    (hXo : CtxOk X) (hX : X A s s.heap) (hM : zMc X l y wsy rmy D tys (.ref b :: As) wc ret post w1 mc ms) (hG : GoodIn Ts (wsV own idx Cn y wsy)) (hw : wsy = .code y bytes maxL rt :: wsy') (hrc : rmy.cells = mc) (hrs : rmy.slots = ms)
    (hd : y.cls = Cn ∧ y.cls ≠ "java/lang/invoke/MethodHandle" ∧ y.cls ≠ "java/lang/invoke/VarHandle" ∧ (parseMethodDescriptor y.desc).map (fun d => d.parameters.length) = some As.length) (hR : rmy.frames + 1 ≤ R.frames ∧ 8 + (maxL + 11) + rmy.locals ≤ R.locals)
    (hE : ∃ (adK adV : Nat → Nat) (i : Nat), i < 28 ∧ b = adK i ∧ vk_S 28 sLen sByt adK adV A s s.heap) (hCn : Cn = "java/lang/String") (wr : va_W) (ws2 : S → va_W) (hsp : ws.Perm (wc ++ wr)) (hjn : ∀ u, (w1 u ++ wr).Perm (ws2 u)) (hst : st0 = As.reverse ++ .ref b :: st) (hroom : (st.map fun v => v.category).sum ≤ 8) (hdg : decode cc pc = .ok (.invokevirtual idx, 3)) (hf : cells + mc ≤ R.cells ∧ slots + ms ≤ R.slots)
    (k : ∀ u, post u → zW p l e R s m args below meth c nL D A (cells + mc) (slots + ms) Q (ws2 u) lv (pc + 3) ((ret u).toList ++ st)) : zW p l e R s m args below meth c nL D A cells slots Q ws lv pc st0 := by
  subst hst
  intro H locs ls hP hD hS hl
  obtain ⟨hx, hb, hml, hown, hts, hK, hA⟩ := C
  have hP := zp_P hsp hP
  have hD := zp_D hsp hD
  have hFc := z_free hD hS hA
  refine z_callG (va_runV (As := As) (rest := st) ⟨hx, hb, hml, hown, hts⟩ (hM H.size) (cwV As.length hts hG hw hrc hrs hd hR) ⟨zPrc_blind hXo _ _ _ _ _, (by obtain ⟨adK, adV, i, hi, hb9, hE⟩ := hE; rw [hb9, hCn]; exact vk_recv hE hi hS), z_prec hXo hX hS hFc (zp_l hP) (zd_l hD) hK⟩ rfl rfl hl.1 rfl (lv_room hroom) hdg hf) hS (fun q _ h => hFc q h) hFc (fun u t H1 locs1 ht hvm hw hB hBD hz1 hk1 hS1 => ?_)
  rw [ht] at hB
  obtain ⟨hP1, hD1⟩ := z_join hP hD hk1 hFc hB hBD
  exact k u hw H1 locs1 ls (zp_P (hjn u) hP1) (zp_D (hjn u) hD1) hS1 hl
variable {adK adV : Nat → Nat}
theorem zx_compact (C : zC p s m args c cc nL Ts own D tys A) (hX : cX adK adV A s s.heap) {idx : Nat} (hlk : Cond.fieldLink own idx "java/lang/String" "COMPACT_STRINGS" "Z" ∈ Ts) (hdg : decode cc pc = .ok (.getstatic idx, 3)) (k : zW p l e R s m args below meth c nL D A cells slots Q ws lv (pc + 3) (.int (nI 1) :: st)) : zW p l e R s m args below meth c nL D A cells slots Q ws lv pc st := fun H locs ls hP hD hS hl =>
  va_gets C.1 C.2.1 hX.1 hS C.2.2.2.1 (C.2.2.2.2.1 _ hlk) (fun _ h => h) hdg (k H locs ls hP hD hS hl)
theorem zx_coder (C : zC p s m args c cc nL Ts own D tys A) (hX : cX adK adV A s s.heap) {idx i : Nat} (hi : i < 28) (hlk : Cond.fieldLink own idx "java/lang/String" "coder" "B" ∈ Ts) (hdg : decode cc pc = .ok (.getfield idx, 3)) (k : zW p l e R s m args below meth c nL D A cells slots Q ws lv (pc + 3) (.int (nI 0) :: st)) : zW p l e R s m args below meth c nL D A cells slots Q ws lv pc (.ref (adK i) :: st) := fun H locs ls hP hD hS hl =>
  vk_getf C.1 C.2.1 (hX.2.2.2.2.1.1 i hi).2.1 hS C.2.2.2.1 (C.2.2.2.2.1 _ hlk) (fun _ h => h) hdg (k H locs ls hP hD hS hl)
theorem zx_value (C : zC p s m args c cc nL Ts own D tys A) (hX : cX adK adV A s s.heap) {idx i : Nat} (hi : i < 28) (hlk : Cond.fieldLink own idx "java/lang/String" "value" "[B" ∈ Ts) (hdg : decode cc pc = .ok (.getfield idx, 3)) (k : zW p l e R s m args below meth c nL D A cells slots Q ws lv (pc + 3) (.ref (adV i) :: st)) : zW p l e R s m args below meth c nL D A cells slots Q ws lv pc (.ref (adK i) :: st) := fun H locs ls hP hD hS hl =>
  vk_getf C.1 C.2.1 (hX.2.2.2.2.1.1 i hi).2.2.1 hS C.2.2.2.1 (C.2.2.2.2.1 _ hlk) (fun _ h => h) hdg (k H locs ls hP hD hS hl)
theorem zx_alen (C : zC p s m args c cc nL Ts own D tys A) (hX : cX adK adV A s s.heap) {i : Nat} (hi : i < 28) (hdg : decode cc pc = .ok (.arraylength, 1)) (k : zW p l e R s m args below meth c nL D A cells slots Q ws lv (pc + 1) (.int (nI (sLen.getD i 0)) :: st)) : zW p l e R s m args below meth c nL D A cells slots Q ws lv pc (.ref (adV i) :: st) := fun H locs ls hP hD hS hl =>
  va_tlen C.1 C.2.1 (hX.2.2.2.2.1.1 i hi).2.2.2 hS rfl hdg (k H locs ls hP hD hS hl)
theorem zx_bald (C : zC p s m args c cc nL Ts own D tys A) (hX : cX adK adV A s s.heap) {i j : Nat} (hi : i < 28) (hj : j < sLen.getD i 0) (hdg : decode cc pc = .ok (.baload, 1)) (k : zW p l e R s m args below meth c nL D A cells slots Q ws lv (pc + 1) (.int (nI (sCh i j)) :: st)) : zW p l e R s m args below meth c nL D A cells slots Q ws lv pc (.int (nI j) :: .ref (adV i) :: st) := fun H locs ls hP hD hS hl => by
  have h9 := sc_all i hi
  exact va_tb C.1 C.2.1 (hX.2.2.2.2.1.1 i hi).2.2.2 hS (vp_in_nI hj (by omega)) (by rw [nI_clamp (by omega), (h9.2.2 j hj).1]) hdg (k H locs ls hP hD hS hl)
theorem zx_ldc (C : zC p s m args c cc nL Ts own D tys A) (hX : cX adK adV A s s.heap) {idx : Nat} (i : Nat) (hi : i < 28) (ho : sOwn.getD i "" = own) (hx : sIdx.getD i 0 = idx) (hdg : decode cc pc = .ok (.ldc idx, 2)) (k : zW p l e R s m args below meth c nL D A cells slots Q ws lv (pc + 2) (.ref (adK i) :: st)) : zW p l e R s m args below meth c nL D A cells slots Q ws lv pc st := fun H locs ls hP hD hS hl => by
  subst ho; subst hx
  exact va_ldcS C.1 C.2.1 C.2.2.2.1 (hX.2.2.2.2.2 i hi) hdg (k H locs ls hP hD hS hl)
end ZX
end ZC
