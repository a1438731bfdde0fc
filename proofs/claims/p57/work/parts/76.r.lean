section RR
variable {p : Program} {l : Launch} {e : Env} {R : Room} {s : State} {m : MethodId} {args : Array Value} {below : List Frame} {meth : Method} {c : Code} {cc : ByteArray} {nL : Nat} {Ts : List Cond} {own : String} {D : va_G} {tys : List (ClassId × FieldType)} {A : Nat → Prop} {cells slots : Nat} {Q : State → Prop} {ws : va_W} {lv : List (Nat × Value)} {pc : Nat} {st : List Value} {X : Ctx}
theorem z_ixor (C : zC p s m args c cc nL Ts own D tys A) {x y : Int32} (hdg : decode cc pc = .ok (.ixor, 1))  (k : zW p l e R s m args below meth c nL D A cells slots Q ws lv (pc + 1) (.int (x ^^^ y) :: st)) : zW p l e R s m args below meth c nL D A cells slots Q ws lv pc (.int y :: .int x :: st) := fun H locs ls hP hD hS hl => lv_ixor C.1 C.2.1 hdg  (k H locs ls hP hD hS hl)
theorem z_ladd (C : zC p s m args c cc nL Ts own D tys A) {x y : Int64} (hdg : decode cc pc = .ok (.ladd, 1))  (k : zW p l e R s m args below meth c nL D A cells slots Q ws lv (pc + 1) (.long (x + y) :: st)) : zW p l e R s m args below meth c nL D A cells slots Q ws lv pc (.long y :: .long x :: st) := fun H locs ls hP hD hS hl => lv_ladd C.1 C.2.1 hdg  (k H locs ls hP hD hS hl)
theorem z_lmul (C : zC p s m args c cc nL Ts own D tys A) {x y : Int64} (hdg : decode cc pc = .ok (.lmul, 1))  (k : zW p l e R s m args below meth c nL D A cells slots Q ws lv (pc + 1) (.long (x * y) :: st)) : zW p l e R s m args below meth c nL D A cells slots Q ws lv pc (.long y :: .long x :: st) := fun H locs ls hP hD hS hl => lv_lmul C.1 C.2.1 hdg  (k H locs ls hP hD hS hl)
theorem z_null (C : zC p s m args c cc nL Ts own D tys A)  (hdg : decode cc pc = .ok (.aconst_null, 1))  (k : zW p l e R s m args below meth c nL D A cells slots Q ws lv (pc + 1) (.null :: st)) : zW p l e R s m args below meth c nL D A cells slots Q ws lv pc st := fun H locs ls hP hD hS hl => lv_null C.1 C.2.1 hdg  (k H locs ls hP hD hS hl)
theorem z_lcmp (C : zC p s m args c cc nL Ts own D tys A) {x y : Int64} (hdg : decode cc pc = .ok (.lcmp, 1)) (k : zW p l e R s m args below meth c nL D A cells slots Q ws lv (pc + 1) (.int (lg_cmp x y) :: st)) : zW p l e R s m args below meth c nL D A cells slots Q ws lv pc (.long y :: .long x :: st) := fun H locs ls hP hD hS hl => W.lcmp C.1 C.2.1 hdg (k H locs ls hP hD hS hl)
theorem z_fcmp (C : zC p s m args c cc nL Ts own D tys A) {x y : UInt32} {op : CmpOp} (hdg : decode cc pc = .ok (.fcmp op, 1)) (k : zW p l e R s m args below meth c nL D A cells slots Q ws lv (pc + 1) (.int (Op.cmpValue (FP.fcmp x y) op) :: st)) : zW p l e R s m args below meth c nL D A cells slots Q ws lv pc (.float y :: .float x :: st) := fun H locs ls hP hD hS hl => lv_fcmp C.1 C.2.1 hdg (k H locs ls hP hD hS hl)
theorem z_ldc (C : zC p s m args c cc nL Ts own D tys A) {index : Nat} {v : Int32} (hc : Cond.constant own index v ∈ Ts) (hdg : decode cc pc = .ok (.ldc index, 2)) (k : zW p l e R s m args below meth c nL D A cells slots Q ws lv (pc + 2) (.int v :: st)) : zW p l e R s m args below meth c nL D A cells slots Q ws lv pc st := fun H locs ls hP hD hS hl => lv_ldc C.1 C.2.1 C.2.2.2.1 (C.2.2.2.2.1 _ hc) hdg (k H locs ls hP hD hS hl)
theorem z_ldc2 (C : zC p s m args c cc nL Ts own D tys A) {index : Nat} {v : Int64} (hc : Cond.constantLong own index v ∈ Ts) (hdg : decode cc pc = .ok (.ldc2_w index, 3)) (k : zW p l e R s m args below meth c nL D A cells slots Q ws lv (pc + 3) (.long v :: st)) : zW p l e R s m args below meth c nL D A cells slots Q ws lv pc st := fun H locs ls hP hD hS hl => lv_ldc2 C.1 C.2.1 C.2.2.2.1 (C.2.2.2.2.1 _ hc) hdg (k H locs ls hP hD hS hl)
theorem z_lstore_n (C : zC p s m args c cc nL Ts own D tys A) {i : Fin 4} {x : Int64} (lv' : List (Nat × Value)) (hdg : decode cc pc = .ok (.lstore_n i, 1)) (hn : i.val + 1 < nL) (hl2 : (i.val, Value.long x) :: lv.filter (fun q => !(q.1 == i.val) && (!(q.1 == i.val + 1) && !(q.1 + 1 == i.val && q.2.category == 2))) = lv') (k : zW p l e R s m args below meth c nL D A cells slots Q ws lv' (pc + 1) st) : zW p l e R s m args below meth c nL D A cells slots Q ws lv pc (.long x :: st) := fun H locs ls hP hD hS hl => lv_lstore_n C.1 C.2.1 hdg rfl hl hn hl2 (fun ls2 hl3 => k H locs ls2 hP hD hS hl3)
theorem z_lstore (C : zC p s m args c cc nL Ts own D tys A) {i : Nat} {x : Int64} (lv' : List (Nat × Value)) (hdg : decode cc pc = .ok (.lstore i, 2)) (hn : i + 1 < nL) (hl2 : (i, Value.long x) :: lv.filter (fun q => !(q.1 == i) && (!(q.1 == i + 1) && !(q.1 + 1 == i && q.2.category == 2))) = lv') (k : zW p l e R s m args below meth c nL D A cells slots Q ws lv' (pc + 2) st) : zW p l e R s m args below meth c nL D A cells slots Q ws lv pc (.long x :: st) := fun H locs ls hP hD hS hl => lv_lstore C.1 C.2.1 hdg hl hn hl2 (fun ls2 hl3 => k H locs ls2 hP hD hS hl3)
theorem z_lconst (C : zC p s m args c cc nL Ts own D tys A) {n : Fin 2} {v : Int64} (hdg : decode cc pc = .ok (.lconst n, 1)) (hv : Int64.ofNat (n : Nat) = v) (k : zW p l e R s m args below meth c nL D A cells slots Q ws lv (pc + 1) (.long v :: st)) : zW p l e R s m args below meth c nL D A cells slots Q ws lv pc st := fun H locs ls hP hD hS hl => lv_lconst C.1 C.2.1 hdg hv (k H locs ls hP hD hS hl)
theorem z_tableIn (C : zC p s m args c cc nL Ts own D tys A) {dflt lo hi : Int} {offs : Array Int} {len : Nat} {x : Int32} {off : Int} {tgt : Nat} (hdg : decode cc pc = .ok (.tableswitch dflt lo hi offs, len)) (h1 : ¬ x.toInt < lo) (h2 : ¬ hi < x.toInt) (ho : offs[(x.toInt - lo).toNat]? = some off) (ht : (pc : Int) + off = (tgt : Int)) (k : zW p l e R s m args below meth c nL D A cells slots Q ws lv tgt st) : zW p l e R s m args below meth c nL D A cells slots Q ws lv pc (.int x :: st) := fun H locs ls hP hD hS hl => lv_tableIn C.1 C.2.1 hdg h1 h2 ho ht (k H locs ls hP hD hS hl)
theorem z_tableOut (C : zC p s m args c cc nL Ts own D tys A) {dflt lo hi : Int} {offs : Array Int} {len : Nat} {x : Int32} {tgt : Nat} (hdg : decode cc pc = .ok (.tableswitch dflt lo hi offs, len)) (h : x.toInt < lo ∨ hi < x.toInt) (ht : (pc : Int) + dflt = (tgt : Int)) (k : zW p l e R s m args below meth c nL D A cells slots Q ws lv tgt st) : zW p l e R s m args below meth c nL D A cells slots Q ws lv pc (.int x :: st) := fun H locs ls hP hD hS hl => lv_tableOut C.1 C.2.1 hdg h ht (k H locs ls hP hD hS hl)
theorem z_slen (C : zC p s m args c cc nL Ts own D tys A) {b L : Nat} {xs : Nat → Int32} (hX : va_X b L xs s s.heap) (hb : b < s.heap.size) (hA : ¬ A b) (hdg : decode cc pc = .ok (.arraylength, 1)) (k : zW p l e R s m args below meth c nL D A cells slots Q ws lv (pc + 1) (.int (nI L) :: st)) : zW p l e R s m args below meth c nL D A cells slots Q ws lv pc (.ref b :: st) := fun H locs ls hP hD hS hl => va_slen C.1 C.2.1 hX hb hA hS hdg (k H locs ls hP hD hS hl)
theorem z_sld (C : zC p s m args c cc nL Ts own D tys A) {b L : Nat} {xs : Nat → Int32} (hX : va_X b L xs s s.heap) (hb : b < s.heap.size) (hA : ¬ A b) {i : Nat} {x : Int32} (hi : i < L) (hL : L < 2147483648) (hx : xs i = x) (hdg : decode cc pc = .ok (.iaload, 1)) (k : zW p l e R s m args below meth c nL D A cells slots Q ws lv (pc + 1) (.int x :: st)) : zW p l e R s m args below meth c nL D A cells slots Q ws lv pc (.int (nI i) :: .ref b :: st) := fun H locs ls hP hD hS hl => va_sld C.1 C.2.1 hX hb hA hS (vp_in_nI hi hL) hdg (by rw [nI_clamp (Nat.lt_trans hi hL), hx]; exact k H locs ls hP hD hS hl)
theorem shr0_eq {n : Nat} : nI n >>> (nI 0 &&& 31) = nI n := by
  show nI n >>> (0 : Int32) = nI n
  simp
theorem shl0_eq {n : Nat} : nI n <<< (nI 0 &&& 31) = nI n := by
  show nI n <<< (0 : Int32) = nI n
  simp
theorem z_shr0 (C : zC p s m args c cc nL Ts own D tys A) {n : Nat} (hdg : decode cc pc = .ok (.ishr, 1)) (k : zW p l e R s m args below meth c nL D A cells slots Q ws lv (pc + 1) (.int (nI n) :: st)) : zW p l e R s m args below meth c nL D A cells slots Q ws lv pc (.int (nI 0) :: .int (nI n) :: st) := z_ishr C hdg (by rw [shr0_eq]; exact k)
theorem z_shl0 (C : zC p s m args c cc nL Ts own D tys A) {n : Nat} (hdg : decode cc pc = .ok (.ishl, 1)) (k : zW p l e R s m args below meth c nL D A cells slots Q ws lv (pc + 1) (.int (nI n) :: st)) : zW p l e R s m args below meth c nL D A cells slots Q ws lv pc (.int (nI 0) :: .int (nI n) :: st) := z_ishl C hdg (by rw [shl0_eq]; exact k)
theorem z_dec (C : zC p s m args c cc nL Ts own D tys A) {i k0 : Nat} (lv' : List (Nat × Value)) (hdg : decode cc pc = .ok (.iinc i (-1), 3)) (j : Nat) (hj : lv[j]? = some (i, .int (nI (k0 + 1)))) (hn : i < nL) (hl2 : (i, Value.int (nI k0)) :: lv.filter (fun q => !(q.1 == i) && !(q.1 + 1 == i && q.2.category == 2)) = lv') (k : zW p l e R s m args below meth c nL D A cells slots Q ws lv' (pc + 3) st) : zW p l e R s m args below meth c nL D A cells slots Q ws lv pc st := z_iinc C lv' hdg j hj (by
  rw [← nI_add]
  show nI k0 + nI 1 + (-1) = nI k0
  rw [Int32.add_assoc, show nI 1 + (-1 : Int32) = 0 by decide, Int32.add_zero]) hn hl2 k
/-- a world without some of its cells -/
theorem z_drop {w' : va_W} (wr : va_W) (h : ws.Perm (w' ++ wr)) (k : zW p l e R s m args below meth c nL D A cells slots Q w' lv pc st) : zW p l e R s m args below meth c nL D A cells slots Q ws lv pc st := fun H locs ls hP hD hS hl => k H locs ls (zp_l (zp_P h hP)) (zd_l (zp_D h hD)) hS hl
/-- a loop that makes cells -/
theorem z_loopA {σ : Type} (wsf : σ → va_W) (lvf : σ → List (Nat × Value)) (cf sf : σ → Nat) (I : σ → Prop) (μ : σ → Nat) (x0 : σ) (h0 : I x0) (hw : ws = wsf x0) (hl : lv = lvf x0) (hc : cells ≤ cf x0) (hs : slots ≤ sf x0) (step : ∀ x, I x → (∀ y, I y → μ y < μ x → zW p l e R s m args below meth c nL D A (cf y) (sf y) Q (wsf y) (lvf y) pc st) → zW p l e R s m args below meth c nL D A (cf x) (sf x) Q (wsf x) (lvf x) pc st) : zW p l e R s m args below meth c nL D A cells slots Q ws lv pc st := by
  subst hw; subst hl
  have key : ∀ (n : Nat) (x : σ), μ x < n → I x → zW p l e R s m args below meth c nL D A (cf x) (sf x) Q (wsf x) (lvf x) pc st := by
    intro n
    induction n with
    | zero => exact fun x h => absurd h (Nat.not_lt_zero _)
    | succ n ih => exact fun x h hI => step x hI (fun y hy hlt => ih y (by omega) hy)
  exact z_widen hc hs (key (μ x0 + 1) x0 (Nat.lt_succ_self _) h0)
/-- the end of a loop's turn: fewer cells than the loop's next turn may have -/
theorem z_wid {k n : Nat} (h1 : cells ≤ k) (h2 : slots ≤ n) (kk : zW p l e R s m args below meth c nL D A k n Q ws lv pc st) : zW p l e R s m args below meth c nL D A cells slots Q ws lv pc st := z_widen h1 h2 kk
theorem zn_max (C : zC p s m args c cc nL Ts own D tys A) {a b idx : Nat} (hlk : Cond.methodLink own idx Lib.Math.max.name ∈ Ts) (h1 : Cond.static Lib.Math.max.name ∈ Ts) (h2 : Cond.initialized "java/lang/Math" ∈ Ts) (h3 : Cond.code Lib.Math.max.name Lib.Math.max.code 2 (some .int) ∈ Ts) (ha : a < 2147483648) (hb : b < 2147483648) (hf : 1 ≤ R.frames ∧ 21 ≤ R.locals) (hroom : (st.map fun v => v.category).sum ≤ 8) (hdg : decode cc pc = .ok (.invokestatic idx, 3)) (hc : cells ≤ R.cells ∧ slots ≤ R.slots) (k : zW p l e R s m args below meth c nL D A cells slots Q ws lv (pc + 3) (.int (nI (if a < b then b else a)) :: st)) : zW p l e R s m args below meth c nL D A cells slots Q ws lv pc (.int (nI b) :: .int (nI a) :: st) := by
  intro H locs ls hP hD hS hl
  refine va_mmax C.1 C.2.1 (C.2.2.1.trans hl.1.symm) C.2.2.2.1 (C.2.2.2.2.1 _ hlk) (C.2.2.2.2.1 _ h1) (C.2.2.2.2.1 _ h2) (C.2.2.2.2.1 _ h3) hf.1 (by omega) hc.1 hc.2 hdg ?_
  have e : (if nI a < nI b then nI b else nI a) = nI (if a < b then b else a) := by
    by_cases q : a < b
    · rw [if_pos q, if_pos ((zq_lt ha hb).mpr q)]
    · rw [if_neg q, if_neg (fun z => q ((zq_lt ha hb).mp z))]
  rw [e]
  exact k H locs ls hP hD hS hl
theorem z_callUc (C : zC p s m args c cc nL Ts own D tys A) {y : MethodName} {wsy wsy' : List Cond} {rmy : Room} {wc : va_W} {b : Nat} {As : List Value} {S : Type} {ret : S → Option Value} {post : S → Prop} {w1 : S → va_W} {mc ms idx maxL ci : Nat} {Cn : String} {T : u_T} {N : Nat} {bytes : ByteArray} {rt : Option FieldType} {fs st0 : List Value}
    (hXo : CtxOk X) (hX : X A s s.heap) (hM : zMc X l y wsy rmy D tys (.ref b :: As) wc ret post w1 mc ms) {x9 : MethodName} {owner : String} (hG : GoodIn Ts (va_wsU own idx Cn owner x9 y wsy)) (hw : wsy = .code y bytes maxL rt :: wsy') (hrc : rmy.cells = mc) (hrs : rmy.slots = ms)
    (hyx : y = ⟨owner, x9.name, x9.desc⟩) (hd : owner ≠ "java/lang/invoke/MethodHandle" ∧ owner ≠ "java/lang/invoke/VarHandle" ∧ (parseMethodDescriptor x9.desc).map (fun d => d.parameters.length) = some As.length) (hR : rmy.frames + 1 ≤ R.frames ∧ 8 + (maxL + 11) + rmy.locals ≤ R.locals)
    (q0 : Nat) (he : wc[q0]? = some (b, .inr (ci, fs))) (hc : vwCl[ci]? = some (Cn, T, N)) (wr : va_W) (ws2 : S → va_W) (hsp : ws.Perm (wc ++ wr)) (hjn : ∀ u, (w1 u ++ wr).Perm (ws2 u)) (hst : st0 = As.reverse ++ .ref b :: st) (hroom : (st.map fun v => v.category).sum ≤ 8) (hdg : decode cc pc = .ok (.invokevirtual idx, 3)) (hf : cells + mc ≤ R.cells ∧ slots + ms ≤ R.slots)
    (k : ∀ u, post u → zW p l e R s m args below meth c nL D A (cells + mc) (slots + ms) Q (ws2 u) lv (pc + 3) ((ret u).toList ++ st)) : zW p l e R s m args below meth c nL D A cells slots Q ws lv pc st0 := by
  subst hst
  intro H locs ls hP hD hS hl
  obtain ⟨hx, hb, hml, hown, hts, hK, hA⟩ := C
  have hP := zp_P hsp hP
  have hD := zp_D hsp hD
  have hFc := z_free hD hS hA
  refine z_callG (va_runU (As := As) (rest := st) ⟨hx, hb, hml, hown, hts⟩ (hM H.size) (va_cwU As.length hts hG hw hrc hrs hyx hd hR) ⟨zPrc_blind hXo _ _ _ _ _, va_recv hK (zp_l hP) hc he, z_prec hXo hX hS hFc (zp_l hP) (zd_l hD) hK⟩ rfl rfl hl.1 rfl (lv_room hroom) hdg hf) hS (fun q _ h => hFc q h) hFc (fun u t H1 locs1 ht hvm hw hB hBD hz1 hk1 hS1 => ?_)
  rw [ht] at hB
  obtain ⟨hP1, hD1⟩ := z_join hP hD hk1 hFc hB hBD
  exact k u hw H1 locs1 ls (zp_P (hjn u) hP1) (zp_D (hjn u) hD1) hS1 hl
theorem z_callOc (C : zC p s m args c cc nL Ts own D tys A) {y : MethodName} {wsy wsy' : List Cond} {rmy : Room} {wc : va_W} {b : Nat} {As : List Value} {S : Type} {ret : S → Option Value} {post : S → Prop} {w1 : S → va_W} {mc ms idx maxL ci : Nat} {Cn : String} {T : u_T} {N : Nat} {bytes : ByteArray} {rt : Option FieldType} {fs st0 : List Value}
    (hXo : CtxOk X) (hX : X A s s.heap) (hM : zMc X l y wsy rmy D tys (.ref b :: As) wc ret post w1 mc ms) {x9 : MethodName} {owner : String} {b0 : ByteArray} {m0 : Nat} {r0 : Option FieldType} (hG : GoodIn Ts (va_wsO own idx Cn owner x9 y wsy)) (h09 : Cond.code ⟨owner, x9.name, x9.desc⟩ b0 m0 r0 ∈ Ts) (hw : wsy = .code y bytes maxL rt :: wsy') (hrc : rmy.cells = mc) (hrs : rmy.slots = ms)
    (hd : owner ≠ "java/lang/invoke/MethodHandle" ∧ owner ≠ "java/lang/invoke/VarHandle" ∧ (parseMethodDescriptor x9.desc).map (fun d => d.parameters.length) = some As.length) (hR : rmy.frames + 1 ≤ R.frames ∧ 8 + (maxL + 11) + rmy.locals ≤ R.locals)
    (q0 : Nat) (he : wc[q0]? = some (b, .inr (ci, fs))) (hc : vwCl[ci]? = some (Cn, T, N)) (wr : va_W) (ws2 : S → va_W) (hsp : ws.Perm (wc ++ wr)) (hjn : ∀ u, (w1 u ++ wr).Perm (ws2 u)) (hst : st0 = As.reverse ++ .ref b :: st) (hroom : (st.map fun v => v.category).sum ≤ 8) (hdg : decode cc pc = .ok (.invokevirtual idx, 3)) (hf : cells + mc ≤ R.cells ∧ slots + ms ≤ R.slots)
    (k : ∀ u, post u → zW p l e R s m args below meth c nL D A (cells + mc) (slots + ms) Q (ws2 u) lv (pc + 3) ((ret u).toList ++ st)) : zW p l e R s m args below meth c nL D A cells slots Q ws lv pc st0 := by
  subst hst
  intro H locs ls hP hD hS hl
  obtain ⟨hx, hb, hml, hown, hts, hK, hA⟩ := C
  have hP := zp_P hsp hP
  have hD := zp_D hsp hD
  have hFc := z_free hD hS hA
  refine z_callG (va_runU (As := As) (rest := st) ⟨hx, hb, hml, hown, hts⟩ (hM H.size) (va_cwO As.length hts hG hw hrc hrs h09 hd hR) ⟨zPrc_blind hXo _ _ _ _ _, va_recv hK (zp_l hP) hc he, z_prec hXo hX hS hFc (zp_l hP) (zd_l hD) hK⟩ rfl rfl hl.1 rfl (lv_room hroom) hdg hf) hS (fun q _ h => hFc q h) hFc (fun u t H1 locs1 ht hvm hw hB hBD hz1 hk1 hS1 => ?_)
  rw [ht] at hB
  obtain ⟨hP1, hD1⟩ := z_join hP hD hk1 hFc hB hBD
  exact k u hw H1 locs1 ls (zp_P (hjn u) hP1) (zp_D (hjn u) hD1) hS1 hl
theorem z_callWc (C : zC p s m args c cc nL Ts own D tys A) {y : MethodName} {wsy wsy' : List Cond} {rmy : Room} {wc : va_W} {b : Nat} {As : List Value} {S : Type} {ret : S → Option Value} {post : S → Prop} {w1 : S → va_W} {mc ms idx maxL ci : Nat} {Cn : String} {T : u_T} {N : Nat} {bytes : ByteArray} {rt : Option FieldType} {fs st0 : List Value}
    (hXo : CtxOk X) (hX : X A s s.heap) (hM : zMc X l y wsy rmy D tys (.ref b :: As) wc ret post w1 mc ms) (hG : GoodIn Ts (va_wsSU own idx y wsy)) (hw : wsy = .code y bytes maxL rt :: wsy') (hrc : rmy.cells = mc) (hrs : rmy.slots = ms)
    (hd : y.name ≠ "<init>" ∧ (parseMethodDescriptor y.desc).map (fun d => d.parameters.length) = some As.length) (hR : rmy.frames + 1 ≤ R.frames ∧ 8 + (maxL + 11) + rmy.locals ≤ R.locals)
    (q0 : Nat) (he : wc[q0]? = some (b, .inr (ci, fs))) (hc : vwCl[ci]? = some (Cn, T, N)) (wr : va_W) (ws2 : S → va_W) (hsp : ws.Perm (wc ++ wr)) (hjn : ∀ u, (w1 u ++ wr).Perm (ws2 u)) (hst : st0 = As.reverse ++ .ref b :: st) (hroom : (st.map fun v => v.category).sum ≤ 8) (hdg : decode cc pc = .ok (.invokespecial idx, 3)) (hf : cells + mc ≤ R.cells ∧ slots + ms ≤ R.slots)
    (k : ∀ u, post u → zW p l e R s m args below meth c nL D A (cells + mc) (slots + ms) Q (ws2 u) lv (pc + 3) ((ret u).toList ++ st)) : zW p l e R s m args below meth c nL D A cells slots Q ws lv pc st0 := by
  subst hst
  intro H locs ls hP hD hS hl
  obtain ⟨hx, hb, hml, hown, hts, hK, hA⟩ := C
  have hP := zp_P hsp hP
  have hD := zp_D hsp hD
  have hFc := z_free hD hS hA
  refine z_callG (va_runSU (hK.1 _ _ hc).2 (As := As) (rest := st) ⟨hx, hb, hml, hown, hts⟩ (hM H.size) (va_cwSU As.length hts hG hw hrc hrs hd hR) ⟨zPrc_blind hXo _ _ _ _ _, va_recv hK (zp_l hP) hc he, z_prec hXo hX hS hFc (zp_l hP) (zd_l hD) hK⟩ rfl rfl hl.1 rfl (lv_room hroom) hdg hf) hS (fun q _ h => hFc q h) hFc (fun u t H1 locs1 ht hvm hw hB hBD hz1 hk1 hS1 => ?_)
  rw [ht] at hB
  obtain ⟨hP1, hD1⟩ := z_join hP hD hk1 hFc hB hBD
  exact k u hw H1 locs1 ls (zp_P (hjn u) hP1) (zp_D (hjn u) hD1) hS1 hl
theorem nfit {k : Nat} (h : k < 128) : fits .byte (.int (nI k)) = true := (show ∀ k, k < 128 → fits .byte (.int (nI k)) = true by decide +kernel) k h
theorem z_copyb (C : zC p s m args c cc nL Ts own D tys A) {idx : Nat} (hlk : Cond.methodLink own idx arraycopyName ∈ Ts) (h1 : Cond.native arraycopyName ∈ Ts) (h2 : Cond.static arraycopyName ∈ Ts) (h3 : Cond.initialized "java/lang/System" ∈ Ts) (q0 q1 t0 : Nat) {a a0 : Nat} {c0 : ClassId} {n0 n1 sp dp n : Nat} {f g : Nat → Int32} (ha0 : ws[q0]? = some (a0, .inl (c0, n0, .inl f))) (ha1 : ws[q1]? = some (a, .inl (c0, n1, .inl g))) (ht0 : tys[t0]? = some (c0, .byte)) (hn0 : n0 < 2147483648) (hn1 : n1 < 2147483648) (hs : sp + n ≤ n0) (hd : dp + n ≤ n1) (hfit : ∀ i, i < n → fits .byte (.int (f (sp + i))) = true) (hf : 1 ≤ R.frames ∧ 26 ≤ R.locals) (hroom : (st.map fun v => v.category).sum ≤ 8) (hdg : decode cc pc = .ok (.invokestatic idx, 3)) (ws' : va_W) (hw : ws.set q1 (a, .inl (c0, n1, .inl (va_cpy f g sp dp n))) = ws') (k : zW p l e R s m args below meth c nL D A cells slots Q ws' lv (pc + 3) st) : zW p l e R s m args below meth c nL D A cells slots Q ws lv pc (.int (nI n) :: .int (nI dp) :: .ref a :: .int (nI sp) :: .ref a0 :: st) := by
  subst hw
  intro H locs ls hP hD hS hl
  have nn : ∀ x : Nat, x < 2147483648 → ¬ nI x < 0 := fun x hx q => absurd ((zq_lt hx (by decide : 0 < 2147483648)).mp q) (Nat.not_lt_zero _)
  have hc : ∀ x : Nat, x < 2147483648 → (nI x).toNatClampNeg = x := fun x hx => nI_clamp hx
  refine va_copyi C.1 C.2.1 (C.2.2.1.trans hl.1.symm) C.2.2.2.1 (C.2.2.2.2.1 _ hlk) (C.2.2.2.2.1 _ h1) (C.2.2.2.2.1 _ h2) (C.2.2.2.2.1 _ h3) C.2.2.2.2.2.1 hP hD hS q0 q1 t0 t0 ha0 ha1 ht0 ht0 rfl (nn sp (by omega)) (nn dp (by omega)) (nn n (by omega)) (by rw [hc sp (by omega), hc n (by omega)]; exact hs) (by rw [hc dp (by omega), hc n (by omega)]; exact hd) (fun i hi => by rw [hc n (by omega)] at hi; rw [hc sp (by omega)]; exact hfit i hi) hf.1 ?_ hdg ?_
  · have e : nativeFrameWords "java/lang/System" "arraycopy" 5 + 11 ≤ 18 := by decide
    omega
  · rw [hc sp (by omega), hc dp (by omega), hc n (by omega)]
    exact fun H1 locs1 hP1 hD1 hS1 => k H1 locs1 ls hP1 hD1 hS1 hl
theorem z_copyt (C : zC p s m args c cc nL Ts own D tys A) {adK adV : Nat → Nat} (hX : cX adK adV A s s.heap) {i idx : Nat} (hi : i < 28) (hlk : Cond.methodLink own idx arraycopyName ∈ Ts) (h1 : Cond.native arraycopyName ∈ Ts) (h2 : Cond.static arraycopyName ∈ Ts) (h3 : Cond.initialized "java/lang/System" ∈ Ts) (q1 t0 : Nat) {a : Nat} {c0 : ClassId} {n1 dp n : Nat} {g : Nat → Nat} (ha1 : ws[q1]? = some (a, .inl (c0, n1, .inl (nF g)))) (ht0 : tys[t0]? = some (c0, .byte)) (hn1 : n1 < 2147483648) (hs : n ≤ sLen.getD i 0) (hd : dp + n ≤ n1) (hf : 1 ≤ R.frames ∧ 26 ≤ R.locals) (hroom : (st.map fun v => v.category).sum ≤ 8) (hdg : decode cc pc = .ok (.invokestatic idx, 3)) (ws' : va_W) (hw : ws.set q1 (a, .inl (c0, n1, .inl (nF (fun j => if dp ≤ j ∧ j < dp + n then sCh i (j - dp) else g j)))) = ws') (k : zW p l e R s m args below meth c nL D A cells slots Q ws' lv (pc + 3) st) : zW p l e R s m args below meth c nL D A cells slots Q ws lv pc (.int (nI n) :: .int (nI dp) :: .ref a :: .int (nI 0) :: .ref (adV i) :: st) := by
  have h9 := sc_all i hi
  have e9 : va_cpy (fun j => (sByt.getD i []).getD j 0) (nF g) 0 dp n = nF (fun j => if dp ≤ j ∧ j < dp + n then sCh i (j - dp) else g j) := by
    funext j
    simp only [va_cpy, nF]
    split
    · rename_i q
      rw [Nat.zero_add]
      exact (h9.2.2 (j - dp) (by omega)).1
    · rfl
  rw [← e9] at hw
  subst hw
  intro H locs ls hP hD hS hl
  have nn : ∀ x : Nat, x < 2147483648 → ¬ nI x < 0 := fun x hx q => absurd ((zq_lt hx (by decide : 0 < 2147483648)).mp q) (Nat.not_lt_zero _)
  have hc : ∀ x : Nat, x < 2147483648 → (nI x).toNatClampNeg = x := fun x hx => nI_clamp hx
  refine vk_copyt C.1 C.2.1 (C.2.2.1.trans hl.1.symm) C.2.2.2.1 (C.2.2.2.2.1 _ hlk) (C.2.2.2.2.1 _ h1) (C.2.2.2.2.1 _ h2) (C.2.2.2.2.1 _ h3) C.2.2.2.2.2.1 hP hD hS (f := fun j => (sByt.getD i []).getD j 0) (hX.2.2.2.2.1.1 i hi).2.2.2 q1 t0 ha1 ht0 (nn 0 (by omega)) (nn dp (by omega)) (nn n (by omega)) (by rw [hc 0 (by omega), hc n (by omega)]; omega) (by rw [hc dp (by omega), hc n (by omega)]; exact hd) (fun j hj => by
    rw [hc n (by omega)] at hj
    rw [hc 0 (by omega)]
    have h7 := h9.2.2 (0 + j) (by omega)
    rw [h7.1]
    exact nfit h7.2) hf.1 ?_ hdg ?_
  · have e : nativeFrameWords "java/lang/System" "arraycopy" 5 + 11 ≤ 18 := by decide
    omega
  · rw [hc 0 (by omega), hc dp (by omega), hc n (by omega)]
    exact fun H1 locs1 hP1 hD1 hS1 => k H1 locs1 ls hP1 hD1 hS1 hl
theorem z_clone (C : zC p s m args c cc nL Ts own D tys A) {idx : Nat} (hlk : Cond.methodLink own idx ⟨"[B", "clone", "()Ljava/lang/Object;"⟩ ∈ Ts) (h1 : Cond.sameMethod "[B" "java/lang/Object" "clone" "()Ljava/lang/Object;" ∈ Ts) (h2 : Cond.native ⟨"java/lang/Object", "clone", "()Ljava/lang/Object;"⟩ ∈ Ts) (h3 : Cond.instanceMethod ⟨"java/lang/Object", "clone", "()Ljava/lang/Object;"⟩ ∈ Ts) (h4 : Cond.selects "[B" ⟨"[B", "clone", "()Ljava/lang/Object;"⟩ ⟨"java/lang/Object", "clone", "()Ljava/lang/Object;"⟩ ∈ Ts) (h5 : va_Nw (.castable "[B" "java/lang/Cloneable") s) (q0 t0 : Nat) {a : Nat} {cA : ClassId} {n : Nat} {f : Nat → Int32} (ha : ws[q0]? = some (a, .inl (cA, n, .inl f))) (ht : tys[t0]? = some (cA, .byte)) (hfit : ∀ i, i < n → fits .byte (.int (f i)) = true) (hf : 1 ≤ R.frames ∧ 26 ≤ R.locals) (hroom : (st.map fun v => v.category).sum ≤ 8) (hcs : cells + 1 ≤ R.cells ∧ slots + n ≤ R.slots) (hdg : decode cc pc = .ok (.invokevirtual idx, 3))
    (k : ∀ q : Nat, zW p l e R s m args below meth c nL D A (cells + 1) (slots + n) Q (ws ++ [(q, .inl (cA, n, .inl f))]) lv (pc + 3) (.ref q :: st)) : zW p l e R s m args below meth c nL D A cells slots Q ws lv pc (.ref a :: st) := by
  intro H locs ls hP hD hS hl
  refine va_clone C.1 C.2.1 (C.2.2.1.trans hl.1.symm) C.2.2.2.1 (C.2.2.2.2.1 _ hlk) (C.2.2.2.2.1 _ h1) (C.2.2.2.2.1 _ h2) (C.2.2.2.2.1 _ h3) (C.2.2.2.2.1 _ h4) h5 C.2.2.2.2.2.1 hP hD hS C.2.2.2.2.2.2 q0 t0 ha ht (va_nm_byte (C.2.2.2.2.2.1.2 t0 _ ht).2) (va_fit hfit) hf.1 (by omega) hcs.1 hcs.2 hdg (fun q H1 _ hP1 hD1 hS1 => k q H1 locs ls hP1 hD1 hS1 hl)
theorem z_castB (C : zC p s m args c cc nL Ts own D tys A) {idx : Nat} (hlk : Cond.classLink own idx "[B" ∈ Ts) (q0 t0 : Nat) {a : Nat} {cA : ClassId} {x : vp_A} (ha : ws[q0]? = some (a, .inl (cA, x))) (ht : tys[t0]? = some (cA, .byte)) (hdg : decode cc pc = .ok (.checkcast idx, 3)) (k : zW p l e R s m args below meth c nL D A cells slots Q ws lv (pc + 3) (.ref a :: st)) : zW p l e R s m args below meth c nL D A cells slots Q ws lv pc (.ref a :: st) := fun H locs ls hP hD hS hl => va_castA C.1 C.2.1 C.2.2.2.1 (C.2.2.2.2.1 _ hlk) hP q0 ha (va_nm_byte (C.2.2.2.2.2.1.2 t0 _ ht).2) hdg (k H locs ls hP hD hS hl)
theorem z_aretA (C : zC p s m args c cc nL Ts own D tys A) (hr : meth.sig.returnType = some (.array .byte)) (hk : meth.locks = false) {S : Type} {ret : S → Option Value} {post : S → Prop} {w1 : S → va_W} {mc ms : Nat} {b : Nat} (u : S) (hu : ret u = some (.ref b)) (hp : post u) (hw : ws.Perm (w1 u)) (hdg : decode cc pc = .ok (.areturn, 1)) (hc : cells ≤ mc) (hs : slots ≤ ms) : zW p l e R s m args below meth c nL D A cells slots (MQ below (zPo D tys ret post w1 A) args s mc ms A) ws lv pc [.ref b] := fun H locs ls hP hD hS hl =>
  W.widen hc hs (W.aret C.1 C.2.1 hr (Or.inr ⟨_, rfl⟩) (Or.inr ⟨_, rfl⟩) (z_end C u hp (zp_P hw hP) (zp_D hw hD) hS hu) hS.2.2 hdg hk)
/-- the tables of digits -/
def dgO (j : Nat) : Nat := 48 + j % 10
def dgT (j : Nat) : Nat := 48 + j / 10
def dX (dO dT : Nat) : Ctx := fun A U H => va_Z "java/lang/Integer" "DigitOnes" "[B" (.ref dO) A U H ∧ va_T .byte dO 100 (fun j => .int (nI (dgO j))) A U H ∧ va_Z "java/lang/Integer" "DigitTens" "[B" (.ref dT) A U H ∧ va_T .byte dT 100 (fun j => .int (nI (dgT j))) A U H
theorem dX_ok (dO dT : Nat) : CtxOk (dX dO dT) := by
  refine ⟨fun A u U H hw h => ?_, fun A U H H1 hk h => ?_, fun A B U H hAB h => ?_, fun A u U H hv h => ?_⟩
  · exact ⟨h.1.moved hw.alike, h.2.1.moved hw.alike, h.2.2.1.moved hw.alike, h.2.2.2.moved hw.alike⟩
  · exact ⟨h.1.kept hk, h.2.1.kept hk, h.2.2.1.kept hk, h.2.2.2.kept hk⟩
  · exact ⟨h.1.narrow hAB, h.2.1.narrow hAB, h.2.2.1.narrow hAB, h.2.2.2.narrow hAB⟩
  · have ha : u.vm.Alike U.vm := by rw [hv]; exact Vm.Alike.refl _
    exact ⟨h.1.moved ha, h.2.1.moved ha, h.2.2.1.moved ha, h.2.2.2.moved ha⟩
/-- literals and digits -/
def bX (adK adV : Nat → Nat) (dO dT : Nat) : Ctx := fun A U H => aX adK adV A U H ∧ dX dO dT A U H
theorem bX_ok (adK adV : Nat → Nat) (dO dT : Nat) : CtxOk (bX adK adV dO dT) := by
  have h1 := aX_ok adK adV
  have h2 := dX_ok dO dT
  exact ⟨fun A u U H hw h => ⟨h1.1 A u U H hw h.1, h2.1 A u U H hw h.2⟩, fun A U H H1 hk h => ⟨h1.2.1 A U H H1 hk h.1, h2.2.1 A U H H1 hk h.2⟩, fun A B U H hAB h => ⟨h1.2.2.1 A B U H hAB h.1, h2.2.2.1 A B U H hAB h.2⟩, fun A u U H hv h => ⟨h1.2.2.2 A u U H hv h.1, h2.2.2.2 A u U H hv h.2⟩⟩
theorem z_dgO (C : zC p s m args c cc nL Ts own D tys A) {dO dT : Nat} (hX : dX dO dT A s s.heap) {idx : Nat} (hlk : Cond.fieldLink own idx "java/lang/Integer" "DigitOnes" "[B" ∈ Ts) (hdg : decode cc pc = .ok (.getstatic idx, 3)) (k : zW p l e R s m args below meth c nL D A cells slots Q ws lv (pc + 3) (.ref dO :: st)) : zW p l e R s m args below meth c nL D A cells slots Q ws lv pc st := fun H locs ls hP hD hS hl => va_gets C.1 C.2.1 hX.1 hS C.2.2.2.1 (C.2.2.2.2.1 _ hlk) (fun _ h => h) hdg (k H locs ls hP hD hS hl)
theorem z_dgT (C : zC p s m args c cc nL Ts own D tys A) {dO dT : Nat} (hX : dX dO dT A s s.heap) {idx : Nat} (hlk : Cond.fieldLink own idx "java/lang/Integer" "DigitTens" "[B" ∈ Ts) (hdg : decode cc pc = .ok (.getstatic idx, 3)) (k : zW p l e R s m args below meth c nL D A cells slots Q ws lv (pc + 3) (.ref dT :: st)) : zW p l e R s m args below meth c nL D A cells slots Q ws lv pc st := fun H locs ls hP hD hS hl => va_gets C.1 C.2.1 hX.2.2.1 hS C.2.2.2.1 (C.2.2.2.2.1 _ hlk) (fun _ h => h) hdg (k H locs ls hP hD hS hl)
theorem z_dlO (C : zC p s m args c cc nL Ts own D tys A) {dO dT : Nat} (hX : dX dO dT A s s.heap) {j : Nat} (hj : j < 100) (hdg : decode cc pc = .ok (.baload, 1)) (k : zW p l e R s m args below meth c nL D A cells slots Q ws lv (pc + 1) (.int (nI (dgO j)) :: st)) : zW p l e R s m args below meth c nL D A cells slots Q ws lv pc (.int (nI j) :: .ref dO :: st) := fun H locs ls hP hD hS hl => va_tb C.1 C.2.1 hX.2.1 hS (vp_in_nI hj (by omega)) (by rw [nI_clamp (by omega)]) hdg (k H locs ls hP hD hS hl)
theorem z_dlT (C : zC p s m args c cc nL Ts own D tys A) {dO dT : Nat} (hX : dX dO dT A s s.heap) {j : Nat} (hj : j < 100) (hdg : decode cc pc = .ok (.baload, 1)) (k : zW p l e R s m args below meth c nL D A cells slots Q ws lv (pc + 1) (.int (nI (dgT j)) :: st)) : zW p l e R s m args below meth c nL D A cells slots Q ws lv pc (.int (nI j) :: .ref dT :: st) := fun H locs ls hP hD hS hl => va_tb C.1 C.2.1 hX.2.2.2 hS (vp_in_nI hj (by omega)) (by rw [nI_clamp (by omega)]) hdg (k H locs ls hP hD hS hl)
/-- the literal that the law has by another entry: the parser's word -/
def rX (adK : Nat → Nat) : Ctx := fun _ U _ => vk_R "PeatRailwayLaw" 67 "railway" (adK 1) U
theorem rX_ok (adK : Nat → Nat) : CtxOk (rX adK) := ⟨fun _ _ _ _ hw h => h.warm hw, fun _ _ _ _ _ h => h, fun _ _ _ _ _ h => h, fun _ _ _ _ hv h => h.same hv⟩
end RR
