section LR
/-- literals, exceptions, digits, a clone, the literal twice entered -/
def wX (adK adV : Nat → Nat) (dO dT : Nat) : Ctx := fun A U H => bX adK adV dO dT A U H ∧ kX A U H ∧ rX adK A U H
theorem wX_ok (adK adV : Nat → Nat) (dO dT : Nat) : CtxOk (wX adK adV dO dT) := by
  have h1 := bX_ok adK adV dO dT
  have h2 := kX_ok
  have h3 := rX_ok adK
  exact ⟨fun A u U H hw h => ⟨h1.1 A u U H hw h.1, h2.1 A u U H hw h.2.1, h3.1 A u U H hw h.2.2⟩, fun A U H H1 hk h => ⟨h1.2.1 A U H H1 hk h.1, h2.2.1 A U H H1 hk h.2.1, h3.2.1 A U H H1 hk h.2.2⟩, fun A B U H hAB h => ⟨h1.2.2.1 A B U H hAB h.1, h2.2.2.1 A B U H hAB h.2.1, h3.2.2.1 A B U H hAB h.2.2⟩, fun A u U H hv h => ⟨h1.2.2.2 A u U H hv h.1, h2.2.2.2 A u U H hv h.2.1, h3.2.2.2 A u U H hv h.2.2⟩⟩
theorem SbP.ap {n k : Nat} {t h : Nat → Nat} {u : Nat × Nat × (Nat → Nat)} (q : SbP n k t h u) : Ap n k t h u.2.2 := ⟨q.2.2.2.1, q.2.2.2.2⟩
/-- the railway that a text's b blocks and t trains lay -/
def RwI (b t : Nat) (σ : Nat → Nat) : Prop := σ 0 = 0 ∧ σ 1 = b ∧ σ 2 = t ∧ σ 3 = 0 ∧ (∀ c, c < b → σ (5 + 6 * c + 5) = 0) ∧ (∀ j, j < t → σ (65 + 5 * j + 2) = 2 * j) ∧ sumL (fun i => σ (65 + 5 * i + 0)) t = σ 4
theorem RwI.z : RwI 0 0 (fun _ => 0) := ⟨rfl, rfl, rfl, rfl, fun c hc => absurd hc (Nat.not_lt_zero c), fun j hj => absurd hj (Nat.not_lt_zero j), rfl⟩
theorem RwI.lay {b : Nat} {σ : Nat → Nat} (h : RwI b 0 σ) (hb : b < 10) (l d x be : Nat) : RwI (b + 1) 0 (layS σ l d x be) := by
  obtain ⟨h0, h1, h2, h3, h5, h6, h7⟩ := h
  have e : ∀ j, (j < 5 ∨ 65 ≤ j) → j ≠ 1 → layS σ l d x be j = σ j := fun j hj hne => by
    simp only [layS]
    rw [upN_n hne, upN_n (by omega), upN_n (by omega), upN_n (by omega), upN_n (by omega), upN_n (by omega), upN_n (by omega)]
  have e1 : layS σ l d x be 1 = b + 1 := by
    simp only [layS]
    rw [upN_s, h1]
  refine ⟨by rw [e 0 (by omega) (by omega)]; exact h0, e1, by rw [e 2 (by omega) (by omega)]; exact h2, by rw [e 3 (by omega) (by omega)]; exact h3, fun c hc => ?_, fun j hj => absurd hj (Nat.not_lt_zero j), by rw [e 4 (by omega) (by omega)]; exact h7⟩
  simp only [layS]
  rw [upN_n (by omega), upN_if, h1]
  split
  · rfl
  · rw [upN_n (by omega), upN_n (by omega), upN_n (by omega), upN_n (by omega), upN_n (by omega)]
    exact h5 c (by omega)
theorem RwI.set {b t : Nat} {σ : Nat → Nat} (h : RwI b t σ) (ht : t < 5) (hb : b ≤ 10) (w s : Nat) : RwI b (t + 1) (setS σ (2 * t) w s) := by
  obtain ⟨h0, h1, h2, h3, h5, h6, h7⟩ := h
  have e : ∀ j, j ≠ 65 + 5 * t + 0 → j ≠ 65 + 5 * t + 1 → j ≠ 65 + 5 * t + 2 → j ≠ 65 + 5 * t + 3 → j ≠ 65 + 5 * t + 4 → j ≠ 4 → j ≠ 2 → setS σ (2 * t) w s j = σ j := fun j k0 k1 k2 k3 k4 k5 k6 => by
    simp only [setS]
    rw [h2, upN_n k6, upN_n k5, upN_n k4, upN_n k3, upN_n k2, upN_n k1, upN_n k0]
  have e2 : setS σ (2 * t) w s 2 = t + 1 := by
    simp only [setS]
    rw [upN_s, h2]
  have e4 : setS σ (2 * t) w s 4 = σ 4 + w := by
    simp only [setS]
    rw [upN_n (by decide), upN_s]
  have ep : setS σ (2 * t) w s (65 + 5 * t + 2) = 2 * t := by
    simp only [setS]
    rw [h2, upN_n (by omega), upN_n (by omega), upN_n (by omega), upN_n (by omega), upN_s]
  have ew : setS σ (2 * t) w s (65 + 5 * t + 0) = w := by
    simp only [setS]
    rw [h2, upN_n (by omega), upN_n (by omega), upN_n (by omega), upN_n (by omega), upN_n (by omega), upN_n (by omega), upN_s]
  refine ⟨by rw [e 0 (by omega) (by omega) (by omega) (by omega) (by omega) (by omega) (by omega)]; exact h0, by rw [e 1 (by omega) (by omega) (by omega) (by omega) (by omega) (by omega) (by omega)]; exact h1, e2, by rw [e 3 (by omega) (by omega) (by omega) (by omega) (by omega) (by omega) (by omega)]; exact h3, fun c hc => ?_, fun j hj => ?_, ?_⟩
  · rw [e (5 + 6 * c + 5) (by omega) (by omega) (by omega) (by omega) (by omega) (by omega) (by omega)]
    exact h5 c hc
  · by_cases q : j = t
    · subst q
      exact ep
    · rw [e (65 + 5 * j + 2) (by omega) (by omega) (by omega) (by omega) (by omega) (by omega) (by omega)]
      exact h6 j (by omega)
  · show sumL (fun i => setS σ (2 * t) w s (65 + 5 * i + 0)) t + setS σ (2 * t) w s (65 + 5 * t + 0) = setS σ (2 * t) w s 4
    rw [e4, ew, sumL_congr (g := fun i => σ (65 + 5 * i + 0)) t (fun i hi => e (65 + 5 * i + 0) (by omega) (by omega) (by omega) (by omega) (by omega) (by omega) (by omega)), h7]
theorem RwI_occ {b t : Nat} {σ : Nat → Nat} (h : RwI b t σ) (hb : 2 * t < b) : occ σ (2 * t) = false := by
  obtain ⟨h0, h1, h2, h3, h5, h6, h7⟩ := h
  have e : trAt σ (2 * t) = 0 := trAt_0.mpr (fun j hj => by rw [h2] at hj; rw [h6 j hj]; omega)
  show (if 0 < trAt σ (2 * t) then true else decide (0 < σ (5 + 6 * (2 * t) + 5))) = false
  rw [if_neg (by omega)]
  exact decide_eq_false (by rw [h5 (2 * t) hb]; decide)
theorem RwI.bal {b t : Nat} {σ : Nat → Nat} (h : RwI b t σ) : Bal σ := by
  obtain ⟨h0, h1, h2, h3, h5, h6, h7⟩ := h
  show sumL (fun k => σ (65 + 5 * k + 0)) (σ 2) + sumL (fun k => σ (5 + 6 * k + 5)) (σ 1) + σ 3 = σ 4
  rw [h1, h2, h3, h7, sumL_z b h5]
  rfl
theorem z_ldcR {p : Program} {l : Launch} {e : Env} {R : Room} {s : State} {m : MethodId} {args : Array Value} {below : List Frame} {meth : Method} {c : Code} {cc : ByteArray} {nL : Nat} {Ts : List Cond} {D : va_G} {tys : List (ClassId × FieldType)} {A : Nat → Prop} {cells slots : Nat} {Q : State → Prop} {ws : va_W} {lv : List (Nat × Value)} {pc : Nat} {st : List Value} {adK : Nat → Nat} (C : zC p s m args c cc nL Ts RL D tys A) (hX : rX adK A s s.heap) (hdg : decode cc pc = .ok (.ldc 67, 2)) (k : zW p l e R s m args below meth c nL D A cells slots Q ws lv (pc + 2) (.ref (adK 1) :: st)) : zW p l e R s m args below meth c nL D A cells slots Q ws lv pc st := fun H locs ls hP hD hS hl => va_ldcS C.1 C.2.1 C.2.2.2.1 hX hdg (k H locs ls hP hD hS hl)
set_option maxRecDepth 100000 in
set_option maxHeartbeats 16000000 in
theorem mL_railway (l : Launch) (D : va_G) (κ : Nat → ClassId) (adK adV : Nat → Nat) (dO dT : Nat) (b t9 rr : Nat) (ρ : Nat → Int32) (hb1 : 1 ≤ b) (hb : b ≤ 10) (ht5 : t9 ≤ 5) (ht9 : 2 * t9 ≤ b + 1) : zMc (wX adK adV dO dT) l yL_railway wsL_railway { frames := 9, cells := 100, slots := 70000, locals := 205 } D (zTy κ) [.int (nI b), .int (nI t9), .ref (rr)] (RAW κ rr ρ) (S := Nat × Nat × Nat × (Nat → Nat) × (Nat → Int32)) (fun u => some (.ref u.1)) (fun u => u.2.2.1 ≤ 300 ∧ (∀ j, u.2.2.2.1 j < 128) ∧ ∃ σ, RwI b t9 σ ∧ TU u.2.2.2.1 u.2.2.1 σ) (fun u => STW κ u.1 u.2.1 u.2.2.1 u.2.2.2.1 ++ RAW κ rr u.2.2.2.2) 100 70000 := by
  refine zMc_of (cc := cL_railway) (maxL := 5) (rt := (some (.object "java/lang/String"))) [(0, .int (nI b)), (1, .int (nI t9)), (2, .ref (rr))] (by decide +kernel) rfl (Nat.le_of_ble_eq_true rfl) rfl ?_
  intro p e s m args below meth c A C hr9 hk hnm hX
  have C : zC p s m args c cL_railway 5 wsL_railway RL D (zTy κ) A := C
  refine z_new (ci := 7) C (show ∀ w ∈ wsJ40, w ∈ wsL_railway from by decide +kernel) tyJ4 tyJ4_ok (show Cond.classLink RL 65 RJ4 ∈ wsL_railway from by decide +kernel) (show Cond.instantiable RJ4 4 ∈ wsL_railway from by decide +kernel) (show Cond.initialized RJ4 ∈ wsL_railway from by decide +kernel) rfl (fs := [.null, .int (nI 0), .int (nI 0), .int (nI 0)]) (fun j hj => by rcases (show j = 0 ∨ j = 1 ∨ j = 2 ∨ j = 3 by omega) with rfl | rfl | rfl | rfl <;> rfl) (Nat.le_of_ble_eq_true rfl) (Nat.le_of_ble_eq_true rfl) dL_railway_0 (fun sb => ?_)
  refine z_ws (ws' := [(sb, .inr (7, [.null, .int (nI 0), .int (nI 0), .int (nI 0)]))] ++ RAW κ rr ρ) List.perm_append_comm ?_
  refine z_dup C dL_railway_3 rfl ?_
  refine z_ldcR C hX.2.2 dL_railway_4 ?_
  refine z_callIc C (cX_ok adK adV) hX.1.1.1 (mJ4_init_a7421 l D κ adK adV sb 1 (by decide)) (fun _ => rfl) gL_railway_J4_init_a7421 rfl rfl rfl (by decide +kernel) (by decide +kernel) (by decide +kernel) rfl (show yJ4_init_a7421.cls ≠ "java/lang/invoke/MethodHandle" ∧ yJ4_init_a7421.cls ≠ "java/lang/invoke/VarHandle" ∧ (parseMethodDescriptor yJ4_init_a7421.desc).map (fun d => d.parameters.length) = some 1 from by decide +kernel) ⟨(Nat.le_of_ble_eq_true rfl), (Nat.le_of_ble_eq_true rfl)⟩ (RAW κ rr ρ) (fun u => SBW κ sb (u.1) (u.2.1) 7 (u.2.2) ++ RAW κ rr ρ) (List.Perm.refl _) (fun _ => List.Perm.refl _) rfl (Nat.le_of_ble_eq_true rfl) dL_railway_6 ⟨(Nat.le_of_ble_eq_true rfl), (Nat.le_of_ble_eq_true rfl)⟩ (fun s0 hs0 => ?_)
  refine z_astore_n C [(3, .ref (sb)), (0, .int (nI b)), (1, .int (nI t9)), (2, .ref (rr))] dL_railway_9 (by decide) rfl ?_
  refine z_iconst (v := nI 0) C dL_railway_10 (by decide) ?_
  refine z_istore C [(4, .int (nI 0)), (3, .ref (sb)), (0, .int (nI b)), (1, .int (nI t9)), (2, .ref (rr))] dL_railway_11 (by decide) rfl ?_
  refine z_lv [2, 3, 4, 1, 0] rfl ?_
  refine z_loopA (σ := Nat × Nat × Nat × Nat × (Nat → Nat) × (Nat → Int32)) (fun x => SBW κ sb x.2.1 x.2.2.1 x.2.2.2.1 x.2.2.2.2.1 ++ RAW κ rr x.2.2.2.2.2) (fun x => [(0, .int (nI b)), (1, .int (nI t9)), (2, .ref (rr)), (3, .ref (sb)), (4, .int (nI x.1))]) (fun x => 3 + 6 * x.1) (fun x => 1404 + 4200 * x.1) (fun x => x.1 ≤ b ∧ x.2.2.2.1 ≤ 7 + 20 * x.1 ∧ (x.2.2.2.1 ≤ x.2.2.1 ∧ x.2.2.1 ≤ 700 ∧ (∀ j, x.2.2.2.2.1 j < 128) ∧ True) ∧ ∃ σ, RwI x.1 0 σ ∧ TU x.2.2.2.2.1 x.2.2.2.1 σ) (fun x => b - x.1) ((0, s0.1, s0.2.1, 7, s0.2.2, ρ)) (⟨Nat.zero_le _, by show 7 ≤ 7 + 20 * 0; decide, ⟨hs0.1, hs0.2.1, hs0.2.2.1, trivial⟩, _, RwI.z, TU.base (fun j hj => by have := hs0.2.2.2.2 j hj; rwa [Nat.zero_add] at this)⟩) rfl rfl (by show _ ≤ 3 + 6 * 0; omega) (by show _ ≤ 1404 + 4200 * 0; omega) ?_
  rintro ⟨k, va, cap, n, h, r⟩ hI13 ih13
  dsimp only at hI13 ih13 ⊢
  obtain ⟨hk1, hn1, hs, σ, hR, hT⟩ := hI13
  refine z_iload C dL_railway_13 4 rfl ?_
  refine z_iload_n C dL_railway_15 0 rfl ?_
  refine zn_icmp_ge C 86 dL_railway_16 (by decide) (by omega) (by omega) (fun h1 => ?_) (fun h2 => ?_)
  · have e86 : k = b := by omega
    rw [e86] at hR hn1
    refine z_iconst (v := nI 0) C dL_railway_86 (by decide) ?_
    refine z_istore C [(4, .int (nI 0)), (0, .int (nI b)), (1, .int (nI t9)), (2, .ref (rr)), (3, .ref (sb))] dL_railway_87 (by decide) rfl ?_
    refine z_lv [1, 2, 3, 4, 0] rfl ?_
    refine z_loopA (σ := Nat × Nat × Nat × Nat × (Nat → Nat) × (Nat → Int32)) (fun x => SBW κ sb x.2.1 x.2.2.1 x.2.2.2.1 x.2.2.2.2.1 ++ RAW κ rr x.2.2.2.2.2) (fun x => [(0, .int (nI b)), (1, .int (nI t9)), (2, .ref (rr)), (3, .ref (sb)), (4, .int (nI x.1))]) (fun x => 63 + 6 * x.1) (fun x => 43404 + 4200 * x.1) (fun x => x.1 ≤ t9 ∧ x.2.2.2.1 ≤ 207 + 15 * x.1 ∧ (x.2.2.2.1 ≤ x.2.2.1 ∧ x.2.2.1 ≤ 700 ∧ (∀ j, x.2.2.2.2.1 j < 128) ∧ True) ∧ ∃ σ, RwI b x.1 σ ∧ TU x.2.2.2.2.1 x.2.2.2.1 σ) (fun x => t9 - x.1) ((0, va, cap, n, h, r)) (⟨Nat.zero_le _, by show n ≤ 207 + 15 * 0; omega, hs, σ, hR, hT⟩) rfl rfl (by show _ ≤ 63 + 6 * 0; omega) (by show _ ≤ 43404 + 4200 * 0; omega) ?_
    rintro ⟨t, va, cap, n, h, r⟩ hI89 ih89
    dsimp only at hI89 ih89 ⊢
    obtain ⟨hk2, hn2, hs, σ, hR, hT⟩ := hI89
    refine z_iload C dL_railway_89 4 rfl ?_
    refine z_iload_n C dL_railway_91 1 rfl ?_
    refine zn_icmp_ge C 148 dL_railway_92 (by decide) (by omega) (by omega) (fun h3 => ?_) (fun h4 => ?_)
    · have e148 : t = t9 := by omega
      rw [e148] at hR
      refine z_aload_n C dL_railway_148 3 rfl ?_
      refine z_callVc C (tX_ok adK adV) ⟨hX.1.1.1, hX.2.1⟩ (mJ4_toString_0e30d l D κ adK adV sb va cap n h hs.2.1 hs.1 hs.2.2.1) gL_railway_J4_toString_0e30d rfl rfl rfl (show yJ4_toString_0e30d.cls = RJ4 ∧ yJ4_toString_0e30d.cls ≠ "java/lang/invoke/MethodHandle" ∧ yJ4_toString_0e30d.cls ≠ "java/lang/invoke/VarHandle" ∧ (parseMethodDescriptor yJ4_toString_0e30d.desc).map (fun d => d.parameters.length) = some 0 from by decide +kernel) ⟨(Nat.le_of_ble_eq_true rfl), (Nat.le_of_ble_eq_true rfl)⟩ 0 rfl rfl (RAW κ rr r) (fun u => STW κ u.1 u.2.1 n (u.2.2) ++ RAW κ rr r) (List.Perm.refl _) (fun _ => List.Perm.refl _) rfl (Nat.le_of_ble_eq_true rfl) dL_railway_149 ⟨(by show _ ≤ 100; omega), (by show _ ≤ 70000; omega)⟩ (fun st hst9 => ?_)
      exact z_aret C hr9 hk ((st.1, st.2.1, n, st.2.2, r)) (rfl) (⟨by show n ≤ 300; omega, hst9.1, σ, hR, fun ip N hi hN hn => hT ip N (fun j hj => (hi j hj).trans (congrArg nI (hst9.2 j hj))) hN hn⟩) (List.Perm.refl _) dL_railway_152 (by show _ ≤ 100; omega) (by show _ ≤ 70000; omega)
    · refine z_aload_n C dL_railway_95 3 rfl ?_
      refine zx_ldc C hX.1.1.1 27 (by decide) rfl rfl dL_railway_96 ?_
      refine z_callVc C (cX_ok adK adV) hX.1.1.1 (mJ4_append_15ec4 l D κ adK adV sb va cap n h 27 (by decide) hs.2.1 hs.1 (show n + 7 ≤ 300 by omega) hs.2.2.1) gL_railway_J4_append_15ec4 rfl rfl rfl (show yJ4_append_15ec4.cls = RJ4 ∧ yJ4_append_15ec4.cls ≠ "java/lang/invoke/MethodHandle" ∧ yJ4_append_15ec4.cls ≠ "java/lang/invoke/VarHandle" ∧ (parseMethodDescriptor yJ4_append_15ec4.desc).map (fun d => d.parameters.length) = some 1 from by decide +kernel) ⟨(Nat.le_of_ble_eq_true rfl), (Nat.le_of_ble_eq_true rfl)⟩ 0 rfl rfl (RAW κ rr r) (fun u => SBW κ sb (u.1) (u.2.1) (n + 7) (u.2.2) ++ RAW κ rr r) (List.Perm.refl _) (fun _ => List.Perm.refl _) rfl (Nat.le_of_ble_eq_true rfl) dL_railway_98 ⟨(by show _ ≤ 100; omega), (by show _ ≤ 70000; omega)⟩ (fun s1 hs1 => ?_)
      refine z_iconst (v := nI 2) C dL_railway_101 (by decide) ?_
      refine z_iload C dL_railway_102 4 rfl ?_
      refine zn_imul C dL_railway_104 ?_
      have hd105 := dgn_1 (2 * t)
      refine z_callVc C (bX_ok adK adV dO dT) hX.1 (mJ4_append_bf812 l D κ adK adV dO dT sb (s1.1) (s1.2.1) (n + 7) (s1.2.2) (2 * t) hs1.2.1 hs1.1 (show n + 7 + dgn (2 * t) ≤ 300 by omega) hs1.2.2.1 (by omega)) gL_railway_J4_append_bf812 rfl rfl rfl (show yJ4_append_bf812.cls = RJ4 ∧ yJ4_append_bf812.cls ≠ "java/lang/invoke/MethodHandle" ∧ yJ4_append_bf812.cls ≠ "java/lang/invoke/VarHandle" ∧ (parseMethodDescriptor yJ4_append_bf812.desc).map (fun d => d.parameters.length) = some 1 from by decide +kernel) ⟨(Nat.le_of_ble_eq_true rfl), (Nat.le_of_ble_eq_true rfl)⟩ 0 rfl rfl (RAW κ rr r) (fun u => SBW κ sb (u.1) (u.2.1) (n + 7 + dgn (2 * t)) (u.2.2) ++ RAW κ rr r) (List.Perm.refl _) (fun _ => List.Perm.refl _) rfl (Nat.le_of_ble_eq_true rfl) dL_railway_105 ⟨(by show _ ≤ 100; omega), (by show _ ≤ 70000; omega)⟩ (fun s2 hs2 => ?_)
      refine z_bipush (v := nI 32) C dL_railway_108 (by decide) ?_
      refine z_callVc C (cX_ok adK adV) hX.1.1.1 (mJ4_append_cf468 l D κ adK adV sb (s2.1) (s2.2.1) (n + 7 + dgn (2 * t)) (s2.2.2) 32 hs2.2.1 hs2.1 (show n + 7 + dgn (2 * t) + 1 ≤ 300 by omega) hs2.2.2.1 (by decide)) gL_railway_J4_append_cf468 rfl rfl rfl (show yJ4_append_cf468.cls = RJ4 ∧ yJ4_append_cf468.cls ≠ "java/lang/invoke/MethodHandle" ∧ yJ4_append_cf468.cls ≠ "java/lang/invoke/VarHandle" ∧ (parseMethodDescriptor yJ4_append_cf468.desc).map (fun d => d.parameters.length) = some 1 from by decide +kernel) ⟨(Nat.le_of_ble_eq_true rfl), (Nat.le_of_ble_eq_true rfl)⟩ 0 rfl rfl (RAW κ rr r) (fun u => SBW κ sb (u.1) (u.2.1) (n + 7 + dgn (2 * t) + 1) (u.2.2) ++ RAW κ rr r) (List.Perm.refl _) (fun _ => List.Perm.refl _) rfl (Nat.le_of_ble_eq_true rfl) dL_railway_110 ⟨(by show _ ≤ 100; omega), (by show _ ≤ 70000; omega)⟩ (fun s3 hs3 => ?_)
      refine z_iconst (v := nI 1) C dL_railway_113 (by decide) ?_
      refine z_aload_n C dL_railway_114 2 rfl ?_
      refine z_callS C (mL_next l D κ rr r) gL_railway_L_next rfl rfl rfl hdL_next ⟨(Nat.le_of_ble_eq_true rfl), (Nat.le_of_ble_eq_true rfl)⟩ (SBW κ sb (s3.1) (s3.2.1) (n + 7 + dgn (2 * t) + 1) (s3.2.2)) (fun u => SBW κ sb (s3.1) (s3.2.1) (n + 7 + dgn (2 * t) + 1) (s3.2.2) ++ RAW κ rr (u.2)) List.perm_append_comm (fun _ => List.perm_append_comm) rfl (Nat.le_of_ble_eq_true rfl) dL_railway_115 ⟨(by show _ ≤ 100; omega), (by show _ ≤ 70000; omega)⟩ (fun dr1 hdr1 => ?_)
      refine z_bipush (v := nI 12) C dL_railway_118 (by decide) ?_
      refine zn_irem C dL_railway_120 (by omega) (by omega) (by omega) ?_
      refine zn_iadd C dL_railway_121 ?_
      generalize hq122 : 1 + ((dr1.1) % 12) = w1
      have hb122 : 1 ≤ w1 ∧ w1 ≤ 12 := by omega
      have hd122 := dgn_1 w1
      refine z_callVc C (bX_ok adK adV dO dT) hX.1 (mJ4_append_bf812 l D κ adK adV dO dT sb (s3.1) (s3.2.1) (n + 7 + dgn (2 * t) + 1) (s3.2.2) w1 hs3.2.1 hs3.1 (show n + 7 + dgn (2 * t) + 1 + dgn w1 ≤ 300 by omega) hs3.2.2.1 (by omega)) gL_railway_J4_append_bf812 rfl rfl rfl (show yJ4_append_bf812.cls = RJ4 ∧ yJ4_append_bf812.cls ≠ "java/lang/invoke/MethodHandle" ∧ yJ4_append_bf812.cls ≠ "java/lang/invoke/VarHandle" ∧ (parseMethodDescriptor yJ4_append_bf812.desc).map (fun d => d.parameters.length) = some 1 from by decide +kernel) ⟨(Nat.le_of_ble_eq_true rfl), (Nat.le_of_ble_eq_true rfl)⟩ 0 rfl rfl (RAW κ rr (dr1.2)) (fun u => SBW κ sb (u.1) (u.2.1) (n + 7 + dgn (2 * t) + 1 + dgn w1) (u.2.2) ++ RAW κ rr (dr1.2)) (List.Perm.refl _) (fun _ => List.Perm.refl _) rfl (Nat.le_of_ble_eq_true rfl) dL_railway_122 ⟨(by show _ ≤ 100; omega), (by show _ ≤ 70000; omega)⟩ (fun s4 hs4 => ?_)
      refine z_bipush (v := nI 32) C dL_railway_125 (by decide) ?_
      refine z_callVc C (cX_ok adK adV) hX.1.1.1 (mJ4_append_cf468 l D κ adK adV sb (s4.1) (s4.2.1) (n + 7 + dgn (2 * t) + 1 + dgn w1) (s4.2.2) 32 hs4.2.1 hs4.1 (show n + 7 + dgn (2 * t) + 1 + dgn w1 + 1 ≤ 300 by omega) hs4.2.2.1 (by decide)) gL_railway_J4_append_cf468 rfl rfl rfl (show yJ4_append_cf468.cls = RJ4 ∧ yJ4_append_cf468.cls ≠ "java/lang/invoke/MethodHandle" ∧ yJ4_append_cf468.cls ≠ "java/lang/invoke/VarHandle" ∧ (parseMethodDescriptor yJ4_append_cf468.desc).map (fun d => d.parameters.length) = some 1 from by decide +kernel) ⟨(Nat.le_of_ble_eq_true rfl), (Nat.le_of_ble_eq_true rfl)⟩ 0 rfl rfl (RAW κ rr (dr1.2)) (fun u => SBW κ sb (u.1) (u.2.1) (n + 7 + dgn (2 * t) + 1 + dgn w1 + 1) (u.2.2) ++ RAW κ rr (dr1.2)) (List.Perm.refl _) (fun _ => List.Perm.refl _) rfl (Nat.le_of_ble_eq_true rfl) dL_railway_127 ⟨(by show _ ≤ 100; omega), (by show _ ≤ 70000; omega)⟩ (fun s5 hs5 => ?_)
      refine z_iconst (v := nI 1) C dL_railway_130 (by decide) ?_
      refine z_aload_n C dL_railway_131 2 rfl ?_
      refine z_callS C (mL_next l D κ rr (dr1.2)) gL_railway_L_next rfl rfl rfl hdL_next ⟨(Nat.le_of_ble_eq_true rfl), (Nat.le_of_ble_eq_true rfl)⟩ (SBW κ sb (s5.1) (s5.2.1) (n + 7 + dgn (2 * t) + 1 + dgn w1 + 1) (s5.2.2)) (fun u => SBW κ sb (s5.1) (s5.2.1) (n + 7 + dgn (2 * t) + 1 + dgn w1 + 1) (s5.2.2) ++ RAW κ rr (u.2)) List.perm_append_comm (fun _ => List.perm_append_comm) rfl (Nat.le_of_ble_eq_true rfl) dL_railway_132 ⟨(by show _ ≤ 100; omega), (by show _ ≤ 70000; omega)⟩ (fun dr2 hdr2 => ?_)
      refine z_iconst (v := nI 5) C dL_railway_135 (by decide) ?_
      refine zn_irem C dL_railway_136 (by omega) (by omega) (by omega) ?_
      refine zn_iadd C dL_railway_137 ?_
      generalize hq138 : 1 + ((dr2.1) % 5) = s1
      have hb138 : 1 ≤ s1 ∧ s1 ≤ 5 := by omega
      have hd138 := dgn_1 s1
      refine z_callVc C (bX_ok adK adV dO dT) hX.1 (mJ4_append_bf812 l D κ adK adV dO dT sb (s5.1) (s5.2.1) (n + 7 + dgn (2 * t) + 1 + dgn w1 + 1) (s5.2.2) s1 hs5.2.1 hs5.1 (show n + 7 + dgn (2 * t) + 1 + dgn w1 + 1 + dgn s1 ≤ 300 by omega) hs5.2.2.1 (by omega)) gL_railway_J4_append_bf812 rfl rfl rfl (show yJ4_append_bf812.cls = RJ4 ∧ yJ4_append_bf812.cls ≠ "java/lang/invoke/MethodHandle" ∧ yJ4_append_bf812.cls ≠ "java/lang/invoke/VarHandle" ∧ (parseMethodDescriptor yJ4_append_bf812.desc).map (fun d => d.parameters.length) = some 1 from by decide +kernel) ⟨(Nat.le_of_ble_eq_true rfl), (Nat.le_of_ble_eq_true rfl)⟩ 0 rfl rfl (RAW κ rr (dr2.2)) (fun u => SBW κ sb (u.1) (u.2.1) (n + 7 + dgn (2 * t) + 1 + dgn w1 + 1 + dgn s1) (u.2.2) ++ RAW κ rr (dr2.2)) (List.Perm.refl _) (fun _ => List.Perm.refl _) rfl (Nat.le_of_ble_eq_true rfl) dL_railway_138 ⟨(by show _ ≤ 100; omega), (by show _ ≤ 70000; omega)⟩ (fun s6 hs6 => ?_)
      refine z_pop C dL_railway_141 rfl ?_
      refine zn_iinc (n := 1) C [(4, .int (nI (t + 1))), (0, .int (nI b)), (1, .int (nI t9)), (2, .ref (rr)), (3, .ref (sb))] dL_railway_142 4 rfl (by decide) rfl ?_
      refine z_goto (tgt := 89) C dL_railway_145 (by decide) ?_
      refine z_lv [1, 2, 3, 4, 0] rfl ?_
      exact z_wid (by show _ ≤ 63 + 6 * (t + 1); omega) (by show _ ≤ 43404 + 4200 * (t + 1); omega) (ih89 (t + 1, s6.1, s6.2.1, n + 7 + dgn (2 * t) + 1 + dgn w1 + 1 + dgn s1, s6.2.2, dr2.2) (⟨by show t + 1 ≤ t9; omega, by show n + 7 + dgn (2 * t) + 1 + dgn w1 + 1 + dgn s1 ≤ 207 + 15 * (t + 1); omega, ⟨hs6.1, hs6.2.1, hs6.2.2.1, trivial⟩, ⟨_, hR.set (by omega) (by omega) w1 s1, hT.train hs1.ap hs2.ap hs3.ap hs4.ap hs5.ap hs6.ap (by rw [hR.2.1]; omega) (by rw [hR.2.1]; omega) (RwI_occ hR (by omega)) (by omega) (by omega) (by omega) (by omega) (by rw [hR.2.2.1]; omega)⟩⟩) (by show t9 - (t + 1) < t9 - t; omega))
  · refine z_aload_n C dL_railway_19 3 rfl ?_
    refine zx_ldc C hX.1.1.1 25 (by decide) rfl rfl dL_railway_20 ?_
    refine z_callVc C (cX_ok adK adV) hX.1.1.1 (mJ4_append_15ec4 l D κ adK adV sb va cap n h 25 (by decide) hs.2.1 hs.1 (show n + 7 ≤ 300 by omega) hs.2.2.1) gL_railway_J4_append_15ec4 rfl rfl rfl (show yJ4_append_15ec4.cls = RJ4 ∧ yJ4_append_15ec4.cls ≠ "java/lang/invoke/MethodHandle" ∧ yJ4_append_15ec4.cls ≠ "java/lang/invoke/VarHandle" ∧ (parseMethodDescriptor yJ4_append_15ec4.desc).map (fun d => d.parameters.length) = some 1 from by decide +kernel) ⟨(Nat.le_of_ble_eq_true rfl), (Nat.le_of_ble_eq_true rfl)⟩ 0 rfl rfl (RAW κ rr r) (fun u => SBW κ sb (u.1) (u.2.1) (n + 7) (u.2.2) ++ RAW κ rr r) (List.Perm.refl _) (fun _ => List.Perm.refl _) rfl (Nat.le_of_ble_eq_true rfl) dL_railway_22 ⟨(by show _ ≤ 100; omega), (by show _ ≤ 70000; omega)⟩ (fun s1 hs1 => ?_)
    refine z_iconst (v := nI 1) C dL_railway_25 (by decide) ?_
    refine z_aload_n C dL_railway_26 2 rfl ?_
    refine z_callS C (mL_next l D κ rr r) gL_railway_L_next rfl rfl rfl hdL_next ⟨(Nat.le_of_ble_eq_true rfl), (Nat.le_of_ble_eq_true rfl)⟩ (SBW κ sb (s1.1) (s1.2.1) (n + 7) (s1.2.2)) (fun u => SBW κ sb (s1.1) (s1.2.1) (n + 7) (s1.2.2) ++ RAW κ rr (u.2)) List.perm_append_comm (fun _ => List.perm_append_comm) rfl (Nat.le_of_ble_eq_true rfl) dL_railway_27 ⟨(by show _ ≤ 100; omega), (by show _ ≤ 70000; omega)⟩ (fun dr1 hdr1 => ?_)
    refine z_bipush (v := nI 12) C dL_railway_30 (by decide) ?_
    refine zn_irem C dL_railway_32 (by omega) (by omega) (by omega) ?_
    refine zn_iadd C dL_railway_33 ?_
    generalize hq34 : 1 + ((dr1.1) % 12) = L1
    have hb34 : 1 ≤ L1 ∧ L1 ≤ 12 := by omega
    have hd34 := dgn_1 L1
    refine z_callVc C (bX_ok adK adV dO dT) hX.1 (mJ4_append_bf812 l D κ adK adV dO dT sb (s1.1) (s1.2.1) (n + 7) (s1.2.2) L1 hs1.2.1 hs1.1 (show n + 7 + dgn L1 ≤ 300 by omega) hs1.2.2.1 (by omega)) gL_railway_J4_append_bf812 rfl rfl rfl (show yJ4_append_bf812.cls = RJ4 ∧ yJ4_append_bf812.cls ≠ "java/lang/invoke/MethodHandle" ∧ yJ4_append_bf812.cls ≠ "java/lang/invoke/VarHandle" ∧ (parseMethodDescriptor yJ4_append_bf812.desc).map (fun d => d.parameters.length) = some 1 from by decide +kernel) ⟨(Nat.le_of_ble_eq_true rfl), (Nat.le_of_ble_eq_true rfl)⟩ 0 rfl rfl (RAW κ rr (dr1.2)) (fun u => SBW κ sb (u.1) (u.2.1) (n + 7 + dgn L1) (u.2.2) ++ RAW κ rr (dr1.2)) (List.Perm.refl _) (fun _ => List.Perm.refl _) rfl (Nat.le_of_ble_eq_true rfl) dL_railway_34 ⟨(by show _ ≤ 100; omega), (by show _ ≤ 70000; omega)⟩ (fun s2 hs2 => ?_)
    refine z_bipush (v := nI 32) C dL_railway_37 (by decide) ?_
    refine z_callVc C (cX_ok adK adV) hX.1.1.1 (mJ4_append_cf468 l D κ adK adV sb (s2.1) (s2.2.1) (n + 7 + dgn L1) (s2.2.2) 32 hs2.2.1 hs2.1 (show n + 7 + dgn L1 + 1 ≤ 300 by omega) hs2.2.2.1 (by decide)) gL_railway_J4_append_cf468 rfl rfl rfl (show yJ4_append_cf468.cls = RJ4 ∧ yJ4_append_cf468.cls ≠ "java/lang/invoke/MethodHandle" ∧ yJ4_append_cf468.cls ≠ "java/lang/invoke/VarHandle" ∧ (parseMethodDescriptor yJ4_append_cf468.desc).map (fun d => d.parameters.length) = some 1 from by decide +kernel) ⟨(Nat.le_of_ble_eq_true rfl), (Nat.le_of_ble_eq_true rfl)⟩ 0 rfl rfl (RAW κ rr (dr1.2)) (fun u => SBW κ sb (u.1) (u.2.1) (n + 7 + dgn L1 + 1) (u.2.2) ++ RAW κ rr (dr1.2)) (List.Perm.refl _) (fun _ => List.Perm.refl _) rfl (Nat.le_of_ble_eq_true rfl) dL_railway_39 ⟨(by show _ ≤ 100; omega), (by show _ ≤ 70000; omega)⟩ (fun s3 hs3 => ?_)
    refine z_aload_n C dL_railway_42 2 rfl ?_
    refine z_callS C (mL_next l D κ rr (dr1.2)) gL_railway_L_next rfl rfl rfl hdL_next ⟨(Nat.le_of_ble_eq_true rfl), (Nat.le_of_ble_eq_true rfl)⟩ (SBW κ sb (s3.1) (s3.2.1) (n + 7 + dgn L1 + 1) (s3.2.2)) (fun u => SBW κ sb (s3.1) (s3.2.1) (n + 7 + dgn L1 + 1) (s3.2.2) ++ RAW κ rr (u.2)) List.perm_append_comm (fun _ => List.perm_append_comm) rfl (Nat.le_of_ble_eq_true rfl) dL_railway_43 ⟨(by show _ ≤ 100; omega), (by show _ ≤ 70000; omega)⟩ (fun dr2 hdr2 => ?_)
    refine z_bipush (v := nI 10) C dL_railway_46 (by decide) ?_
    refine zn_irem C dL_railway_48 (by omega) (by omega) (by omega) ?_
    generalize hq49 : (dr2.1) % 10 = d1
    have hb49 : 0 ≤ d1 ∧ d1 ≤ 9 := by omega
    have hd49 := dgn_1 d1
    refine z_callVc C (bX_ok adK adV dO dT) hX.1 (mJ4_append_bf812 l D κ adK adV dO dT sb (s3.1) (s3.2.1) (n + 7 + dgn L1 + 1) (s3.2.2) d1 hs3.2.1 hs3.1 (show n + 7 + dgn L1 + 1 + dgn d1 ≤ 300 by omega) hs3.2.2.1 (by omega)) gL_railway_J4_append_bf812 rfl rfl rfl (show yJ4_append_bf812.cls = RJ4 ∧ yJ4_append_bf812.cls ≠ "java/lang/invoke/MethodHandle" ∧ yJ4_append_bf812.cls ≠ "java/lang/invoke/VarHandle" ∧ (parseMethodDescriptor yJ4_append_bf812.desc).map (fun d => d.parameters.length) = some 1 from by decide +kernel) ⟨(Nat.le_of_ble_eq_true rfl), (Nat.le_of_ble_eq_true rfl)⟩ 0 rfl rfl (RAW κ rr (dr2.2)) (fun u => SBW κ sb (u.1) (u.2.1) (n + 7 + dgn L1 + 1 + dgn d1) (u.2.2) ++ RAW κ rr (dr2.2)) (List.Perm.refl _) (fun _ => List.Perm.refl _) rfl (Nat.le_of_ble_eq_true rfl) dL_railway_49 ⟨(by show _ ≤ 100; omega), (by show _ ≤ 70000; omega)⟩ (fun s4 hs4 => ?_)
    refine z_pop C dL_railway_52 rfl ?_
    refine z_aload_n C dL_railway_53 2 rfl ?_
    refine z_callS C (mL_next l D κ rr (dr2.2)) gL_railway_L_next rfl rfl rfl hdL_next ⟨(Nat.le_of_ble_eq_true rfl), (Nat.le_of_ble_eq_true rfl)⟩ (SBW κ sb (s4.1) (s4.2.1) (n + 7 + dgn L1 + 1 + dgn d1) (s4.2.2)) (fun u => SBW κ sb (s4.1) (s4.2.1) (n + 7 + dgn L1 + 1 + dgn d1) (s4.2.2) ++ RAW κ rr (u.2)) List.perm_append_comm (fun _ => List.perm_append_comm) rfl (Nat.le_of_ble_eq_true rfl) dL_railway_54 ⟨(by show _ ≤ 100; omega), (by show _ ≤ 70000; omega)⟩ (fun dr3 hdr3 => ?_)
    refine z_iconst (v := nI 3) C dL_railway_57 (by decide) ?_
    refine zn_irem C dL_railway_58 (by omega) (by omega) (by omega) ?_
    refine zn_if_ne C 80 dL_railway_59 (by decide) (by omega) (fun h5 => ?_) (fun h6 => ?_)
    · refine zn_iinc (n := 1) C [(4, .int (nI (k + 1))), (0, .int (nI b)), (1, .int (nI t9)), (2, .ref (rr)), (3, .ref (sb))] dL_railway_80 4 rfl (by decide) rfl ?_
      refine z_goto (tgt := 13) C dL_railway_83 (by decide) ?_
      refine z_lv [1, 2, 3, 4, 0] rfl ?_
      exact z_wid (by show _ ≤ 3 + 6 * (k + 1); omega) (by show _ ≤ 1404 + 4200 * (k + 1); omega) (ih13 (k + 1, s4.1, s4.2.1, n + 7 + dgn L1 + 1 + dgn d1, s4.2.2, dr3.2) (⟨by show k + 1 ≤ b; omega, by show n + 7 + dgn L1 + 1 + dgn d1 ≤ 7 + 20 * (k + 1); omega, ⟨hs4.1, hs4.2.1, hs4.2.2.1, trivial⟩, ⟨_, hR.lay (by omega) L1 d1 5 0, hT.block hs1.ap hs2.ap hs3.ap hs4.ap (by omega) (by omega) (by omega) (by have := hR.2.1; omega)⟩⟩) (by show b - (k + 1) < b - k; omega))
    · refine z_aload_n C dL_railway_62 3 rfl ?_
      refine zx_ldc C hX.1.1.1 26 (by decide) rfl rfl dL_railway_63 ?_
      refine z_callVc C (cX_ok adK adV) hX.1.1.1 (mJ4_append_15ec4 l D κ adK adV sb (s4.1) (s4.2.1) (n + 7 + dgn L1 + 1 + dgn d1) (s4.2.2) 26 (by decide) hs4.2.1 hs4.1 (show n + 7 + dgn L1 + 1 + dgn d1 + 6 ≤ 300 by omega) hs4.2.2.1) gL_railway_J4_append_15ec4 rfl rfl rfl (show yJ4_append_15ec4.cls = RJ4 ∧ yJ4_append_15ec4.cls ≠ "java/lang/invoke/MethodHandle" ∧ yJ4_append_15ec4.cls ≠ "java/lang/invoke/VarHandle" ∧ (parseMethodDescriptor yJ4_append_15ec4.desc).map (fun d => d.parameters.length) = some 1 from by decide +kernel) ⟨(Nat.le_of_ble_eq_true rfl), (Nat.le_of_ble_eq_true rfl)⟩ 0 rfl rfl (RAW κ rr (dr3.2)) (fun u => SBW κ sb (u.1) (u.2.1) (n + 7 + dgn L1 + 1 + dgn d1 + 6) (u.2.2) ++ RAW κ rr (dr3.2)) (List.Perm.refl _) (fun _ => List.Perm.refl _) rfl (Nat.le_of_ble_eq_true rfl) dL_railway_65 ⟨(by show _ ≤ 100; omega), (by show _ ≤ 70000; omega)⟩ (fun s5 hs5 => ?_)
      refine z_iconst (v := nI 1) C dL_railway_68 (by decide) ?_
      refine z_aload_n C dL_railway_69 2 rfl ?_
      refine z_callS C (mL_next l D κ rr (dr3.2)) gL_railway_L_next rfl rfl rfl hdL_next ⟨(Nat.le_of_ble_eq_true rfl), (Nat.le_of_ble_eq_true rfl)⟩ (SBW κ sb (s5.1) (s5.2.1) (n + 7 + dgn L1 + 1 + dgn d1 + 6) (s5.2.2)) (fun u => SBW κ sb (s5.1) (s5.2.1) (n + 7 + dgn L1 + 1 + dgn d1 + 6) (s5.2.2) ++ RAW κ rr (u.2)) List.perm_append_comm (fun _ => List.perm_append_comm) rfl (Nat.le_of_ble_eq_true rfl) dL_railway_70 ⟨(by show _ ≤ 100; omega), (by show _ ≤ 70000; omega)⟩ (fun dr4 hdr4 => ?_)
      refine z_iconst (v := nI 5) C dL_railway_73 (by decide) ?_
      refine zn_irem C dL_railway_74 (by omega) (by omega) (by omega) ?_
      refine zn_iadd C dL_railway_75 ?_
      generalize hq76 : 1 + ((dr4.1) % 5) = x1
      have hb76 : 1 ≤ x1 ∧ x1 ≤ 5 := by omega
      have hd76 := dgn_1 x1
      refine z_callVc C (bX_ok adK adV dO dT) hX.1 (mJ4_append_bf812 l D κ adK adV dO dT sb (s5.1) (s5.2.1) (n + 7 + dgn L1 + 1 + dgn d1 + 6) (s5.2.2) x1 hs5.2.1 hs5.1 (show n + 7 + dgn L1 + 1 + dgn d1 + 6 + dgn x1 ≤ 300 by omega) hs5.2.2.1 (by omega)) gL_railway_J4_append_bf812 rfl rfl rfl (show yJ4_append_bf812.cls = RJ4 ∧ yJ4_append_bf812.cls ≠ "java/lang/invoke/MethodHandle" ∧ yJ4_append_bf812.cls ≠ "java/lang/invoke/VarHandle" ∧ (parseMethodDescriptor yJ4_append_bf812.desc).map (fun d => d.parameters.length) = some 1 from by decide +kernel) ⟨(Nat.le_of_ble_eq_true rfl), (Nat.le_of_ble_eq_true rfl)⟩ 0 rfl rfl (RAW κ rr (dr4.2)) (fun u => SBW κ sb (u.1) (u.2.1) (n + 7 + dgn L1 + 1 + dgn d1 + 6 + dgn x1) (u.2.2) ++ RAW κ rr (dr4.2)) (List.Perm.refl _) (fun _ => List.Perm.refl _) rfl (Nat.le_of_ble_eq_true rfl) dL_railway_76 ⟨(by show _ ≤ 100; omega), (by show _ ≤ 70000; omega)⟩ (fun s6 hs6 => ?_)
      refine z_pop C dL_railway_79 rfl ?_
      refine zn_iinc (n := 1) C [(4, .int (nI (k + 1))), (0, .int (nI b)), (1, .int (nI t9)), (2, .ref (rr)), (3, .ref (sb))] dL_railway_80 4 rfl (by decide) rfl ?_
      refine z_goto (tgt := 13) C dL_railway_83 (by decide) ?_
      refine z_lv [1, 2, 3, 4, 0] rfl ?_
      exact z_wid (by show _ ≤ 3 + 6 * (k + 1); omega) (by show _ ≤ 1404 + 4200 * (k + 1); omega) (ih13 (k + 1, s6.1, s6.2.1, n + 7 + dgn L1 + 1 + dgn d1 + 6 + dgn x1, s6.2.2, dr4.2) (⟨by show k + 1 ≤ b; omega, by show n + 7 + dgn L1 + 1 + dgn d1 + 6 + dgn x1 ≤ 7 + 20 * (k + 1); omega, ⟨hs6.1, hs6.2.1, hs6.2.2.1, trivial⟩, ⟨_, hR.lay (by omega) L1 d1 x1 1, hT.bend hs1.ap hs2.ap hs3.ap hs4.ap hs5.ap hs6.ap (by omega) (by omega) (by omega) (by omega) (by omega) (by have := hR.2.1; omega)⟩⟩) (by show b - (k + 1) < b - k; omega))
theorem hdL_railway : yL_railway.cls ≠ "java/lang/invoke/MethodHandle" ∧ yL_railway.cls ≠ "java/lang/invoke/VarHandle" ∧ (parseMethodDescriptor yL_railway.desc).map (fun d => d.parameters.length) = some 3 := by decide +kernel
end LR
