section LQ
variable {p : Program} {l : Launch} {e : Env} {R : Room} {s : State} {m : MethodId} {args : Array Value} {below : List Frame} {meth : Method} {c : Code} {cc : ByteArray} {nL : Nat} {Ts : List Cond} {own : String} {D : va_G} {tys : List (ClassId × FieldType)} {A : Nat → Prop} {cells slots : Nat} {Q : State → Prop} {ws : va_W} {lv : List (Nat × Value)} {pc : Nat} {st : List Value}
theorem tI_lt0 {x : Nat} (h : x < 2147483648) : tI x < 0 ↔ x = 0 := by
  cases x with
  | zero => exact ⟨fun _ => rfl, fun _ => by decide⟩
  | succ k => exact ⟨fun q => absurd q (nI_pos (show k < 2147483648 by omega)), fun q => absurd q (Nat.succ_ne_zero k)⟩
theorem zt_if_lt (C : zC p s m args c cc nL Ts own D tys A) {x : Nat} {off : Int} (tgt : Nat) (hdg : decode cc pc = .ok (.ifCond .lt off, 3)) (ht : (pc : Int) + off = (tgt : Int)) (hx : x < 2147483648) (kt : x = 0 → zW p l e R s m args below meth c nL D A cells slots Q ws lv tgt st) (kf : 0 < x → zW p l e R s m args below meth c nL D A cells slots Q ws lv (pc + 3) st) : zW p l e R s m args below meth c nL D A cells slots Q ws lv pc (.int (tI x) :: st) := z_if_lt C tgt hdg ht (fun q => kt ((tI_lt0 hx).mp q)) (fun q => kf (Nat.pos_of_ne_zero (fun z => q ((tI_lt0 hx).mpr z))))
theorem zt_if_ge (C : zC p s m args c cc nL Ts own D tys A) {x : Nat} {off : Int} (tgt : Nat) (hdg : decode cc pc = .ok (.ifCond .ge off, 3)) (ht : (pc : Int) + off = (tgt : Int)) (hx : x < 2147483648) (kt : 0 < x → zW p l e R s m args below meth c nL D A cells slots Q ws lv tgt st) (kf : x = 0 → zW p l e R s m args below meth c nL D A cells slots Q ws lv (pc + 3) st) : zW p l e R s m args below meth c nL D A cells slots Q ws lv pc (.int (tI x) :: st) := z_if_ge C tgt hdg ht (fun q => kt (Nat.pos_of_ne_zero (fun z => absurd q (Int32.not_le.mpr ((tI_lt0 hx).mpr z))))) (fun q => kf ((tI_lt0 hx).mp (Int32.not_le.mp q)))
theorem z_lret (C : zC p s m args c cc nL Ts own D tys A) (hr : meth.sig.returnType = some .long) (hk : meth.locks = false) {S : Type} {ret : S → Option Value} {post : S → Prop} {w1 : S → va_W} {mc ms : Nat} {v : Int64} (u : S) (hu : ret u = some (.long v)) (hp : post u) (hw : ws.Perm (w1 u)) (hdg : decode cc pc = .ok (.lreturn, 1)) (hc : cells ≤ mc) (hs : slots ≤ ms) : zW p l e R s m args below meth c nL D A cells slots (MQ below (zPo D tys ret post w1 A) args s mc ms A) ws lv pc [.long v] := fun H locs ls hP hD hS hl =>
  W.widen hc hs (W.lret C.1 C.2.1 hr (z_end C u hp (zp_P hw hP) (zp_D hw hD) hS hu) hS.2.2 hdg hk)
theorem tI_pos {x : Nat} (h : 0 < x) : tI x = nI (x - 1) := by
  cases x with
  | zero => omega
  | succ k => rfl
/-- the sum that the law makes of all that it reads -/
def smB (σ : Nat → Nat) (s0 : Int64) : Nat → Int64
  | 0 => s0
  | k + 1 => 31 * (31 * (31 * smB σ s0 k + (nI (σ (5 + 6 * k + 1))).toInt64) + (nI (decide (σ (5 + 6 * k + 4) = 1)).toNat).toInt64) + (nI (σ (5 + 6 * k + 5))).toInt64
def smP (σ : Nat → Nat) (t : Nat) (s0 : Int64) : Nat → Int64
  | 0 => s0
  | b + 1 => 31 * smP σ t s0 b + (nI (σ (90 + 10 * t + b))).toInt64
def smT (σ : Nat → Nat) (s0 : Int64) : Nat → Int64
  | 0 => s0
  | k + 1 => smP σ k (31 * (31 * (31 * (31 * (31 * smT σ s0 k + (nI (σ (65 + 5 * k + 2))).toInt64) + (nI (σ (65 + 5 * k + 3))).toInt64) + (nI (σ (65 + 5 * k + 0))).toInt64) + (nI (σ (65 + 5 * k + 1))).toInt64) + (nI (σ (65 + 5 * k + 4))).toInt64) (σ 1)
def smV (σ : Nat → Nat) : Int64 := smT σ (smB σ (31 * (nI (σ 0)).toInt64 + (nI (σ 3)).toInt64) (σ 1)) (σ 2)
set_option maxRecDepth 100000 in
set_option maxHeartbeats 8000000 in
theorem mL_occupied (l : Launch) (D : va_G) (κ : Nat → ClassId) (Sa : Nat → Nat) (g : Nat → Nat → Nat) (ra f9 h9 a9 b9 p9 o9 : Nat) (σ : Nat → Nat) (M : Nat) (b : Nat) (hr : Rep g σ) (hv : Inv M σ) (hb : b < σ 1) : zM l yL_occupied wsL_occupied { frames := 2, cells := 0, slots := 0, locals := 42 } D (zTy κ) [.ref (ra), .int (nI b)] (SW κ Sa g ++ (RC ra (Sa 0) f9 h9 a9 b9 p9 o9)) (S := Unit) (fun _ => some (.int (nI (occ σ b).toNat))) (fun _ => True) (fun _ => SW κ Sa g ++ (RC ra (Sa 0) f9 h9 a9 b9 p9 o9)) 0 0 := by
  refine zM_of (cc := cL_occupied) (maxL := 2) (rt := (some .boolean)) [(0, .ref (ra)), (1, .int (nI b))] (by decide +kernel) rfl (Nat.le_of_ble_eq_true rfl) rfl ?_
  intro p e s m args below meth c A C hr9 hk hnm
  have C : zC p s m args c cL_occupied 2 wsL_occupied RL D (zTy κ) A := C
  have hn1 := hv.n1
  have hn2 := hv.n2
  have hb9 := hv.blk hb
  have ht9 := hv.tr b
  refine z_aload_n C dL_occupied_0 0 rfl ?_
  refine z_iload_n C dL_occupied_1 1 rfl ?_
  refine z_callV C (mX5_trainIn_ok l D κ Sa g ra f9 h9 a9 b9 p9 o9 σ M b hr hv (by omega)) gL_occupied_X5_trainIn rfl rfl rfl hdX5_trainIn ⟨(Nat.le_of_ble_eq_true rfl), (Nat.le_of_ble_eq_true rfl)⟩ 13 rfl rfl ([]) (fun _ => SW κ Sa g ++ (RC ra (Sa 0) f9 h9 a9 b9 p9 o9)) (zp_self) (fun _ => zp_self') rfl (Nat.le_of_ble_eq_true rfl) dL_occupied_2 ⟨Nat.le_of_ble_eq_true rfl, Nat.le_of_ble_eq_true rfl⟩ (fun _ _ => ?_)
  refine zt_if_ge C 16 dL_occupied_5 (by decide) (by omega) (fun h1 => ?_) (fun h2 => ?_)
  · refine z_iconst (v := nI 1) C dL_occupied_16 (by decide) ?_
    refine z_goto (tgt := 21) C dL_occupied_17 (by decide) ?_
    exact z_zret C hr9 hk (by decide) () (congrArg (fun b : Bool => some (Value.int (nI b.toNat))) (show occ σ b = true from by simp only [occ]; rw [if_pos h1])) trivial (List.Perm.refl _) dL_occupied_21 (Nat.le_refl _) (Nat.le_refl _)
  · refine z_aload_n C dL_occupied_8 0 rfl ?_
    refine z_iload_n C dL_occupied_9 1 rfl ?_
    refine z_callV C (mX5_lostIn_ok l D κ Sa g ra f9 h9 a9 b9 p9 o9 σ M b hr hv (by omega)) gL_occupied_X5_lostIn rfl rfl rfl hdX5_lostIn ⟨(Nat.le_of_ble_eq_true rfl), (Nat.le_of_ble_eq_true rfl)⟩ 13 rfl rfl ([]) (fun _ => SW κ Sa g ++ (RC ra (Sa 0) f9 h9 a9 b9 p9 o9)) (zp_self) (fun _ => zp_self') rfl (Nat.le_of_ble_eq_true rfl) dL_occupied_10 ⟨Nat.le_of_ble_eq_true rfl, Nat.le_of_ble_eq_true rfl⟩ (fun _ _ => ?_)
    refine zn_if_le C 20 dL_occupied_13 (by decide) (by omega) (fun h3 => ?_) (fun h4 => ?_)
    · refine z_iconst (v := nI 0) C dL_occupied_20 (by decide) ?_
      exact z_zret C hr9 hk (by decide) () (congrArg (fun b : Bool => some (Value.int (nI b.toNat))) (show occ σ b = false from by simp only [occ]; rw [if_neg (by omega)]; exact decide_eq_false (by omega))) trivial (List.Perm.refl _) dL_occupied_21 (Nat.le_refl _) (Nat.le_refl _)
    · refine z_iconst (v := nI 1) C dL_occupied_16 (by decide) ?_
      refine z_goto (tgt := 21) C dL_occupied_17 (by decide) ?_
      exact z_zret C hr9 hk (by decide) () (congrArg (fun b : Bool => some (Value.int (nI b.toNat))) (show occ σ b = true from by simp only [occ]; rw [if_neg (by omega)]; exact decide_eq_true h4)) trivial (List.Perm.refl _) dL_occupied_21 (Nat.le_refl _) (Nat.le_refl _)
theorem hdL_occupied : yL_occupied.cls ≠ "java/lang/invoke/MethodHandle" ∧ yL_occupied.cls ≠ "java/lang/invoke/VarHandle" ∧ (parseMethodDescriptor yL_occupied.desc).map (fun d => d.parameters.length) = some 2 := by decide +kernel
set_option maxRecDepth 100000 in
set_option maxHeartbeats 8000000 in
theorem mL_sum (l : Launch) (D : va_G) (κ : Nat → ClassId) (Sa : Nat → Nat) (g : Nat → Nat → Nat) (ra f9 h9 a9 b9 p9 o9 : Nat) (σ : Nat → Nat) (M : Nat)  (hr : Rep g σ) (hv : Inv M σ)  : zM l yL_sum wsL_sum { frames := 2, cells := 0, slots := 0, locals := 44 } D (zTy κ) [.ref (ra)] (SW κ Sa g ++ (RC ra (Sa 0) f9 h9 a9 b9 p9 o9)) (S := Unit) (fun _ => some (.long (smV σ))) (fun _ => True) (fun _ => SW κ Sa g ++ (RC ra (Sa 0) f9 h9 a9 b9 p9 o9)) 0 0 := by
  refine zM_of (cc := cL_sum) (maxL := 5) (rt := (some .long)) [(0, .ref (ra))] (by decide +kernel) rfl (Nat.le_of_ble_eq_true rfl) rfl ?_
  intro p e s m args below meth c A C hr9 hk hnm
  have C : zC p s m args c cL_sum 5 wsL_sum RL D (zTy κ) A := C
  have hn1 := hv.n1
  have hn2 := hv.n2
  have hbd := hv.bd
  have htk := hv.tk
  refine z_ldc2 (v := 31) C (show Cond.constantLong RL 95 31 ∈ wsL_sum from by decide +kernel) dL_sum_0 ?_
  refine z_aload_n C dL_sum_3 0 rfl ?_
  refine z_callV C (mX5_tick l D κ Sa g ra f9 h9 a9 b9 p9 o9 σ M  hr hv) gL_sum_X5_tick rfl rfl rfl hdX5_tick ⟨(Nat.le_of_ble_eq_true rfl), (Nat.le_of_ble_eq_true rfl)⟩ 13 rfl rfl ([]) (fun _ => SW κ Sa g ++ (RC ra (Sa 0) f9 h9 a9 b9 p9 o9)) (zp_self) (fun _ => zp_self') rfl (Nat.le_of_ble_eq_true rfl) dL_sum_4 ⟨Nat.le_of_ble_eq_true rfl, Nat.le_of_ble_eq_true rfl⟩ (fun _ _ => ?_)
  refine z_i2l C dL_sum_7 rfl ?_
  refine z_lmul C dL_sum_8 ?_
  refine z_aload_n C dL_sum_9 0 rfl ?_
  refine z_callV C (mX5_removedWagons l D κ Sa g ra f9 h9 a9 b9 p9 o9 σ M  hr hv) gL_sum_X5_removedWagons rfl rfl rfl hdX5_removedWagons ⟨(Nat.le_of_ble_eq_true rfl), (Nat.le_of_ble_eq_true rfl)⟩ 13 rfl rfl ([]) (fun _ => SW κ Sa g ++ (RC ra (Sa 0) f9 h9 a9 b9 p9 o9)) (zp_self) (fun _ => zp_self') rfl (Nat.le_of_ble_eq_true rfl) dL_sum_10 ⟨Nat.le_of_ble_eq_true rfl, Nat.le_of_ble_eq_true rfl⟩ (fun _ _ => ?_)
  refine z_i2l C dL_sum_13 rfl ?_
  refine z_ladd C dL_sum_14 ?_
  refine z_lstore_n C [(1, .long ((31 * ((nI (σ 0)).toInt64)) + ((nI (σ 3)).toInt64))), (0, .ref (ra))] dL_sum_15 (by decide) rfl ?_
  refine z_iconst (v := nI 0) C dL_sum_16 (by decide) ?_
  refine z_istore_n C [(3, .int (nI 0)), (1, .long ((31 * ((nI (σ 0)).toInt64)) + ((nI (σ 3)).toInt64))), (0, .ref (ra))] dL_sum_17 (by decide) rfl ?_
  refine z_lv [2, 1, 0] rfl ?_
  refine z_loop (σ := Nat) (fun k => SW κ Sa g ++ (RC ra (Sa 0) f9 h9 a9 b9 p9 o9)) (fun k => [(0, .ref (ra)), (1, .long (smB σ (31 * (nI (σ 0)).toInt64 + (nI (σ 3)).toInt64) k)), (3, .int (nI k))]) (fun k => k ≤ σ 1) (fun k => σ 1 - k) (0) (Nat.zero_le _) rfl rfl ?_
  rintro k hI18 ih18
  refine z_iload_n C dL_sum_18 2 rfl ?_
  refine z_aload_n C dL_sum_19 0 rfl ?_
  refine z_callV C (mX5_blockCount l D κ Sa g ra f9 h9 a9 b9 p9 o9 σ M  hr hv) gL_sum_X5_blockCount rfl rfl rfl hdX5_blockCount ⟨(Nat.le_of_ble_eq_true rfl), (Nat.le_of_ble_eq_true rfl)⟩ 13 rfl rfl ([]) (fun _ => SW κ Sa g ++ (RC ra (Sa 0) f9 h9 a9 b9 p9 o9)) (zp_self) (fun _ => zp_self') rfl (Nat.le_of_ble_eq_true rfl) dL_sum_20 ⟨Nat.le_of_ble_eq_true rfl, Nat.le_of_ble_eq_true rfl⟩ (fun _ _ => ?_)
  refine zn_icmp_ge C 75 dL_sum_23 (by decide) (by omega) (by omega) (fun h1 => ?_) (fun h2 => ?_)
  · obtain rfl : k = σ 1 := by omega
    refine z_iconst (v := nI 0) C dL_sum_75 (by decide) ?_
    refine z_istore_n C [(3, .int (nI 0)), (0, .ref (ra)), (1, .long (smB σ (31 * (nI (σ 0)).toInt64 + (nI (σ 3)).toInt64) (σ 1)))] dL_sum_76 (by decide) rfl ?_
    refine z_lv [1, 2, 0] rfl ?_
    refine z_loop (σ := Nat) (fun t => SW κ Sa g ++ (RC ra (Sa 0) f9 h9 a9 b9 p9 o9)) (fun t => [(0, .ref (ra)), (1, .long (smT σ (smB σ (31 * (nI (σ 0)).toInt64 + (nI (σ 3)).toInt64) (σ 1)) t)), (3, .int (nI t))]) (fun t => t ≤ σ 2) (fun t => σ 2 - t) (0) (Nat.zero_le _) rfl rfl ?_
    rintro t hI77 ih77
    refine z_iload_n C dL_sum_77 2 rfl ?_
    refine z_aload_n C dL_sum_78 0 rfl ?_
    refine z_callV C (mX5_trainCount l D κ Sa g ra f9 h9 a9 b9 p9 o9 σ M  hr hv) gL_sum_X5_trainCount rfl rfl rfl hdX5_trainCount ⟨(Nat.le_of_ble_eq_true rfl), (Nat.le_of_ble_eq_true rfl)⟩ 13 rfl rfl ([]) (fun _ => SW κ Sa g ++ (RC ra (Sa 0) f9 h9 a9 b9 p9 o9)) (zp_self) (fun _ => zp_self') rfl (Nat.le_of_ble_eq_true rfl) dL_sum_79 ⟨Nat.le_of_ble_eq_true rfl, Nat.le_of_ble_eq_true rfl⟩ (fun _ _ => ?_)
    refine zn_icmp_ge C 183 dL_sum_82 (by decide) (by omega) (by omega) (fun h3 => ?_) (fun h4 => ?_)
    · obtain rfl : t = σ 2 := by omega
      refine z_lload_n C dL_sum_183 1 rfl ?_
      exact z_lret C hr9 hk () (rfl) trivial (List.Perm.refl _) dL_sum_184 (Nat.le_refl _) (Nat.le_refl _)
    · refine z_ldc2 (v := 31) C (show Cond.constantLong RL 95 31 ∈ wsL_sum from by decide +kernel) dL_sum_85 ?_
      refine z_ldc2 (v := 31) C (show Cond.constantLong RL 95 31 ∈ wsL_sum from by decide +kernel) dL_sum_88 ?_
      refine z_ldc2 (v := 31) C (show Cond.constantLong RL 95 31 ∈ wsL_sum from by decide +kernel) dL_sum_91 ?_
      refine z_ldc2 (v := 31) C (show Cond.constantLong RL 95 31 ∈ wsL_sum from by decide +kernel) dL_sum_94 ?_
      refine z_lload_n C dL_sum_97 1 rfl ?_
      refine z_lmul C dL_sum_98 ?_
      refine z_aload_n C dL_sum_99 0 rfl ?_
      refine z_iload_n C dL_sum_100 2 rfl ?_
      refine z_callV C (mX5_blockOf_ok l D κ Sa g ra f9 h9 a9 b9 p9 o9 σ M t hr hv (by omega)) gL_sum_X5_blockOf rfl rfl rfl hdX5_blockOf ⟨(Nat.le_of_ble_eq_true rfl), (Nat.le_of_ble_eq_true rfl)⟩ 13 rfl rfl ([]) (fun _ => SW κ Sa g ++ (RC ra (Sa 0) f9 h9 a9 b9 p9 o9)) (zp_self) (fun _ => zp_self') rfl (Nat.le_of_ble_eq_true rfl) dL_sum_101 ⟨Nat.le_of_ble_eq_true rfl, Nat.le_of_ble_eq_true rfl⟩ (fun _ _ => ?_)
      refine z_i2l C dL_sum_104 rfl ?_
      refine z_ladd C dL_sum_105 ?_
      refine z_lmul C dL_sum_106 ?_
      refine z_aload_n C dL_sum_107 0 rfl ?_
      refine z_iload_n C dL_sum_108 2 rfl ?_
      refine z_callV C (mX5_positionOf_ok l D κ Sa g ra f9 h9 a9 b9 p9 o9 σ M t hr hv (by omega)) gL_sum_X5_positionOf rfl rfl rfl hdX5_positionOf ⟨(Nat.le_of_ble_eq_true rfl), (Nat.le_of_ble_eq_true rfl)⟩ 13 rfl rfl ([]) (fun _ => SW κ Sa g ++ (RC ra (Sa 0) f9 h9 a9 b9 p9 o9)) (zp_self) (fun _ => zp_self') rfl (Nat.le_of_ble_eq_true rfl) dL_sum_109 ⟨Nat.le_of_ble_eq_true rfl, Nat.le_of_ble_eq_true rfl⟩ (fun _ _ => ?_)
      refine z_i2l C dL_sum_112 rfl ?_
      refine z_ladd C dL_sum_113 ?_
      refine z_lmul C dL_sum_114 ?_
      refine z_aload_n C dL_sum_115 0 rfl ?_
      refine z_iload_n C dL_sum_116 2 rfl ?_
      refine z_callV C (mX5_wagonsOf_ok l D κ Sa g ra f9 h9 a9 b9 p9 o9 σ M t hr hv (by omega)) gL_sum_X5_wagonsOf rfl rfl rfl hdX5_wagonsOf ⟨(Nat.le_of_ble_eq_true rfl), (Nat.le_of_ble_eq_true rfl)⟩ 13 rfl rfl ([]) (fun _ => SW κ Sa g ++ (RC ra (Sa 0) f9 h9 a9 b9 p9 o9)) (zp_self) (fun _ => zp_self') rfl (Nat.le_of_ble_eq_true rfl) dL_sum_117 ⟨Nat.le_of_ble_eq_true rfl, Nat.le_of_ble_eq_true rfl⟩ (fun _ _ => ?_)
      refine z_i2l C dL_sum_120 rfl ?_
      refine z_ladd C dL_sum_121 ?_
      refine z_lmul C dL_sum_122 ?_
      refine z_aload_n C dL_sum_123 0 rfl ?_
      refine z_iload_n C dL_sum_124 2 rfl ?_
      refine z_callV C (mX5_topSpeedOf_ok l D κ Sa g ra f9 h9 a9 b9 p9 o9 σ M t hr hv (by omega)) gL_sum_X5_topSpeedOf rfl rfl rfl hdX5_topSpeedOf ⟨(Nat.le_of_ble_eq_true rfl), (Nat.le_of_ble_eq_true rfl)⟩ 13 rfl rfl ([]) (fun _ => SW κ Sa g ++ (RC ra (Sa 0) f9 h9 a9 b9 p9 o9)) (zp_self) (fun _ => zp_self') rfl (Nat.le_of_ble_eq_true rfl) dL_sum_125 ⟨Nat.le_of_ble_eq_true rfl, Nat.le_of_ble_eq_true rfl⟩ (fun _ _ => ?_)
      refine z_i2l C dL_sum_128 rfl ?_
      refine z_ladd C dL_sum_129 ?_
      refine z_lstore_n C [(1, .long ((31 * ((31 * ((31 * ((31 * (smT σ (smB σ (31 * (nI (σ 0)).toInt64 + (nI (σ 3)).toInt64) (σ 1)) t)) + ((nI (σ (65 + 5 * t + 2))).toInt64))) + ((nI (σ (65 + 5 * t + 3))).toInt64))) + ((nI (σ (65 + 5 * t + 0))).toInt64))) + ((nI (σ (65 + 5 * t + 1))).toInt64))), (0, .ref (ra)), (3, .int (nI t))] dL_sum_130 (by decide) rfl ?_
      refine z_ldc2 (v := 31) C (show Cond.constantLong RL 95 31 ∈ wsL_sum from by decide +kernel) dL_sum_131 ?_
      refine z_lload_n C dL_sum_134 0 rfl ?_
      refine z_lmul C dL_sum_135 ?_
      refine z_aload_n C dL_sum_136 1 rfl ?_
      refine z_iload_n C dL_sum_137 2 rfl ?_
      refine z_callV C (mX5_waitsOf_ok l D κ Sa g ra f9 h9 a9 b9 p9 o9 σ M t hr hv (by omega)) gL_sum_X5_waitsOf rfl rfl rfl hdX5_waitsOf ⟨(Nat.le_of_ble_eq_true rfl), (Nat.le_of_ble_eq_true rfl)⟩ 13 rfl rfl ([]) (fun _ => SW κ Sa g ++ (RC ra (Sa 0) f9 h9 a9 b9 p9 o9)) (zp_self) (fun _ => zp_self') rfl (Nat.le_of_ble_eq_true rfl) dL_sum_138 ⟨Nat.le_of_ble_eq_true rfl, Nat.le_of_ble_eq_true rfl⟩ (fun _ _ => ?_)
      refine z_i2l C dL_sum_141 rfl ?_
      refine z_ladd C dL_sum_142 ?_
      refine z_lstore_n C [(1, .long ((31 * ((31 * ((31 * ((31 * ((31 * (smT σ (smB σ (31 * (nI (σ 0)).toInt64 + (nI (σ 3)).toInt64) (σ 1)) t)) + ((nI (σ (65 + 5 * t + 2))).toInt64))) + ((nI (σ (65 + 5 * t + 3))).toInt64))) + ((nI (σ (65 + 5 * t + 0))).toInt64))) + ((nI (σ (65 + 5 * t + 1))).toInt64))) + ((nI (σ (65 + 5 * t + 4))).toInt64))), (0, .ref (ra)), (3, .int (nI t))] dL_sum_143 (by decide) rfl ?_
      refine z_iconst (v := nI 0) C dL_sum_144 (by decide) ?_
      refine z_istore C [(4, .int (nI 0)), (1, .long ((31 * ((31 * ((31 * ((31 * ((31 * (smT σ (smB σ (31 * (nI (σ 0)).toInt64 + (nI (σ 3)).toInt64) (σ 1)) t)) + ((nI (σ (65 + 5 * t + 2))).toInt64))) + ((nI (σ (65 + 5 * t + 3))).toInt64))) + ((nI (σ (65 + 5 * t + 0))).toInt64))) + ((nI (σ (65 + 5 * t + 1))).toInt64))) + ((nI (σ (65 + 5 * t + 4))).toInt64))), (0, .ref (ra)), (3, .int (nI t))] dL_sum_145 (by decide) rfl ?_
      refine z_lv [2, 1, 3, 0] rfl ?_
      refine z_loop (σ := Nat) (fun b => SW κ Sa g ++ (RC ra (Sa 0) f9 h9 a9 b9 p9 o9)) (fun b => [(0, .ref (ra)), (1, .long (smP σ t (31 * (31 * (31 * (31 * (31 * smT σ (smB σ (31 * (nI (σ 0)).toInt64 + (nI (σ 3)).toInt64) (σ 1)) t + (nI (σ (65 + 5 * t + 2))).toInt64) + (nI (σ (65 + 5 * t + 3))).toInt64) + (nI (σ (65 + 5 * t + 0))).toInt64) + (nI (σ (65 + 5 * t + 1))).toInt64) + (nI (σ (65 + 5 * t + 4))).toInt64) b)), (3, .int (nI t)), (4, .int (nI b))]) (fun b => b ≤ σ 1) (fun b => σ 1 - b) (0) (Nat.zero_le _) rfl rfl ?_
      rintro b hI147 ih147
      have hp9 := hv.bd
      refine z_iload C dL_sum_147 3 rfl ?_
      refine z_aload_n C dL_sum_149 0 rfl ?_
      refine z_callV C (mX5_blockCount l D κ Sa g ra f9 h9 a9 b9 p9 o9 σ M  hr hv) gL_sum_X5_blockCount rfl rfl rfl hdX5_blockCount ⟨(Nat.le_of_ble_eq_true rfl), (Nat.le_of_ble_eq_true rfl)⟩ 13 rfl rfl ([]) (fun _ => SW κ Sa g ++ (RC ra (Sa 0) f9 h9 a9 b9 p9 o9)) (zp_self) (fun _ => zp_self') rfl (Nat.le_of_ble_eq_true rfl) dL_sum_150 ⟨Nat.le_of_ble_eq_true rfl, Nat.le_of_ble_eq_true rfl⟩ (fun _ _ => ?_)
      refine zn_icmp_ge C 177 dL_sum_153 (by decide) (by omega) (by omega) (fun h5 => ?_) (fun h6 => ?_)
      · obtain rfl : b = σ 1 := by omega
        refine zn_iinc (n := 1) C [(3, .int (nI (t + 1))), (0, .ref (ra)), (1, .long (smT σ (smB σ (31 * (nI (σ 0)).toInt64 + (nI (σ 3)).toInt64) (σ 1)) (t + 1))), (4, .int (nI ((σ 1))))] dL_sum_177 2 rfl (by decide) rfl ?_
        refine z_goto (tgt := 77) C dL_sum_180 (by decide) ?_
        refine z_lv [1, 2, 0] rfl ?_
        exact ih77 (t + 1) (by omega) (by omega)
      · refine z_ldc2 (v := 31) C (show Cond.constantLong RL 95 31 ∈ wsL_sum from by decide +kernel) dL_sum_156 ?_
        refine z_lload_n C dL_sum_159 1 rfl ?_
        refine z_lmul C dL_sum_160 ?_
        refine z_aload_n C dL_sum_161 0 rfl ?_
        refine z_iload_n C dL_sum_162 2 rfl ?_
        refine z_iload C dL_sum_163 3 rfl ?_
        refine z_callV C (mX5_passages_ok l D κ Sa g ra f9 h9 a9 b9 p9 o9 σ M t b hr hv (by omega) (by omega)) gL_sum_X5_passages rfl rfl rfl hdX5_passages ⟨(Nat.le_of_ble_eq_true rfl), (Nat.le_of_ble_eq_true rfl)⟩ 13 rfl rfl ([]) (fun _ => SW κ Sa g ++ (RC ra (Sa 0) f9 h9 a9 b9 p9 o9)) (zp_self) (fun _ => zp_self') rfl (Nat.le_of_ble_eq_true rfl) dL_sum_165 ⟨Nat.le_of_ble_eq_true rfl, Nat.le_of_ble_eq_true rfl⟩ (fun _ _ => ?_)
        refine z_i2l C dL_sum_168 rfl ?_
        refine z_ladd C dL_sum_169 ?_
        refine z_lstore_n C [(1, .long ((31 * (smP σ t (31 * (31 * (31 * (31 * (31 * smT σ (smB σ (31 * (nI (σ 0)).toInt64 + (nI (σ 3)).toInt64) (σ 1)) t + (nI (σ (65 + 5 * t + 2))).toInt64) + (nI (σ (65 + 5 * t + 3))).toInt64) + (nI (σ (65 + 5 * t + 0))).toInt64) + (nI (σ (65 + 5 * t + 1))).toInt64) + (nI (σ (65 + 5 * t + 4))).toInt64) b)) + ((nI (σ (90 + 10 * t + b))).toInt64))), (0, .ref (ra)), (3, .int (nI t)), (4, .int (nI b))] dL_sum_170 (by decide) rfl ?_
        refine zn_iinc (n := 1) C [(4, .int (nI (b + 1))), (1, .long ((31 * (smP σ t (31 * (31 * (31 * (31 * (31 * smT σ (smB σ (31 * (nI (σ 0)).toInt64 + (nI (σ 3)).toInt64) (σ 1)) t + (nI (σ (65 + 5 * t + 2))).toInt64) + (nI (σ (65 + 5 * t + 3))).toInt64) + (nI (σ (65 + 5 * t + 0))).toInt64) + (nI (σ (65 + 5 * t + 1))).toInt64) + (nI (σ (65 + 5 * t + 4))).toInt64) b)) + ((nI (σ (90 + 10 * t + b))).toInt64))), (0, .ref (ra)), (3, .int (nI t))] dL_sum_171 3 rfl (by decide) rfl ?_
        refine z_goto (tgt := 147) C dL_sum_174 (by decide) ?_
        refine z_lv [2, 1, 3, 0] rfl ?_
        exact ih147 (b + 1) (by omega) (by omega)
  · refine z_ldc2 (v := 31) C (show Cond.constantLong RL 95 31 ∈ wsL_sum from by decide +kernel) dL_sum_26 ?_
    refine z_ldc2 (v := 31) C (show Cond.constantLong RL 95 31 ∈ wsL_sum from by decide +kernel) dL_sum_29 ?_
    refine z_ldc2 (v := 31) C (show Cond.constantLong RL 95 31 ∈ wsL_sum from by decide +kernel) dL_sum_32 ?_
    refine z_lload_n C dL_sum_35 1 rfl ?_
    refine z_lmul C dL_sum_36 ?_
    refine z_aload_n C dL_sum_37 0 rfl ?_
    refine z_iload_n C dL_sum_38 2 rfl ?_
    refine z_callV C (mX5_depthOf_ok l D κ Sa g ra f9 h9 a9 b9 p9 o9 σ M k hr hv (by omega)) gL_sum_X5_depthOf rfl rfl rfl hdX5_depthOf ⟨(Nat.le_of_ble_eq_true rfl), (Nat.le_of_ble_eq_true rfl)⟩ 13 rfl rfl ([]) (fun _ => SW κ Sa g ++ (RC ra (Sa 0) f9 h9 a9 b9 p9 o9)) (zp_self) (fun _ => zp_self') rfl (Nat.le_of_ble_eq_true rfl) dL_sum_39 ⟨Nat.le_of_ble_eq_true rfl, Nat.le_of_ble_eq_true rfl⟩ (fun _ _ => ?_)
    refine z_i2l C dL_sum_42 rfl ?_
    refine z_ladd C dL_sum_43 ?_
    refine z_lmul C dL_sum_44 ?_
    refine z_aload_n C dL_sum_45 0 rfl ?_
    refine z_iload_n C dL_sum_46 2 rfl ?_
    refine z_callV C (mX5_isClear_ok l D κ Sa g ra f9 h9 a9 b9 p9 o9 σ M k hr hv (by omega)) gL_sum_X5_isClear rfl rfl rfl hdX5_isClear ⟨(Nat.le_of_ble_eq_true rfl), (Nat.le_of_ble_eq_true rfl)⟩ 13 rfl rfl ([]) (fun _ => SW κ Sa g ++ (RC ra (Sa 0) f9 h9 a9 b9 p9 o9)) (zp_self) (fun _ => zp_self') rfl (Nat.le_of_ble_eq_true rfl) dL_sum_47 ⟨Nat.le_of_ble_eq_true rfl, Nat.le_of_ble_eq_true rfl⟩ (fun _ _ => ?_)
    refine zb_if_eq C 57 dL_sum_50 (by decide) (fun h7 => ?_) (fun h8 => ?_)
    · refine z_iconst (v := nI 0) C dL_sum_57 (by decide) ?_
      refine z_i2l C dL_sum_58 rfl ?_
      refine z_ladd C dL_sum_59 ?_
      refine z_lmul C dL_sum_60 ?_
      refine z_aload_n C dL_sum_61 0 rfl ?_
      refine z_iload_n C dL_sum_62 2 rfl ?_
      refine z_callV C (mX5_lostIn_ok l D κ Sa g ra f9 h9 a9 b9 p9 o9 σ M k hr hv (by omega)) gL_sum_X5_lostIn rfl rfl rfl hdX5_lostIn ⟨(Nat.le_of_ble_eq_true rfl), (Nat.le_of_ble_eq_true rfl)⟩ 13 rfl rfl ([]) (fun _ => SW κ Sa g ++ (RC ra (Sa 0) f9 h9 a9 b9 p9 o9)) (zp_self) (fun _ => zp_self') rfl (Nat.le_of_ble_eq_true rfl) dL_sum_63 ⟨Nat.le_of_ble_eq_true rfl, Nat.le_of_ble_eq_true rfl⟩ (fun _ _ => ?_)
      refine z_i2l C dL_sum_66 rfl ?_
      refine z_ladd C dL_sum_67 ?_
      refine z_lstore_n C [(1, .long ((31 * ((31 * ((31 * (smB σ (31 * (nI (σ 0)).toInt64 + (nI (σ 3)).toInt64) k)) + ((nI (σ (5 + 6 * k + 1))).toInt64))) + ((nI 0).toInt64))) + ((nI (σ (5 + 6 * k + 5))).toInt64))), (0, .ref (ra)), (3, .int (nI k))] dL_sum_68 (by decide) rfl ?_
      refine z_eq (lv' := [(1, .long (smB σ (31 * (nI (σ 0)).toInt64 + (nI (σ 3)).toInt64) (k + 1))), (0, .ref (ra)), (3, .int (nI k))]) ?_ rfl (by simp only [smB]; rw [h7]; rfl) rfl rfl
      refine zn_iinc (n := 1) C [(3, .int (nI (k + 1))), (1, .long (smB σ (31 * (nI (σ 0)).toInt64 + (nI (σ 3)).toInt64) (k + 1))), (0, .ref (ra))] dL_sum_69 2 rfl (by decide) rfl ?_
      refine z_goto (tgt := 18) C dL_sum_72 (by decide) ?_
      refine z_lv [2, 1, 0] rfl ?_
      exact ih18 (k + 1) (by omega) (by omega)
    · refine z_iconst (v := nI 1) C dL_sum_53 (by decide) ?_
      refine z_goto (tgt := 58) C dL_sum_54 (by decide) ?_
      refine z_i2l C dL_sum_58 rfl ?_
      refine z_ladd C dL_sum_59 ?_
      refine z_lmul C dL_sum_60 ?_
      refine z_aload_n C dL_sum_61 0 rfl ?_
      refine z_iload_n C dL_sum_62 2 rfl ?_
      refine z_callV C (mX5_lostIn_ok l D κ Sa g ra f9 h9 a9 b9 p9 o9 σ M k hr hv (by omega)) gL_sum_X5_lostIn rfl rfl rfl hdX5_lostIn ⟨(Nat.le_of_ble_eq_true rfl), (Nat.le_of_ble_eq_true rfl)⟩ 13 rfl rfl ([]) (fun _ => SW κ Sa g ++ (RC ra (Sa 0) f9 h9 a9 b9 p9 o9)) (zp_self) (fun _ => zp_self') rfl (Nat.le_of_ble_eq_true rfl) dL_sum_63 ⟨Nat.le_of_ble_eq_true rfl, Nat.le_of_ble_eq_true rfl⟩ (fun _ _ => ?_)
      refine z_i2l C dL_sum_66 rfl ?_
      refine z_ladd C dL_sum_67 ?_
      refine z_lstore_n C [(1, .long ((31 * ((31 * ((31 * (smB σ (31 * (nI (σ 0)).toInt64 + (nI (σ 3)).toInt64) k)) + ((nI (σ (5 + 6 * k + 1))).toInt64))) + ((nI 1).toInt64))) + ((nI (σ (5 + 6 * k + 5))).toInt64))), (0, .ref (ra)), (3, .int (nI k))] dL_sum_68 (by decide) rfl ?_
      refine z_eq (lv' := [(1, .long (smB σ (31 * (nI (σ 0)).toInt64 + (nI (σ 3)).toInt64) (k + 1))), (0, .ref (ra)), (3, .int (nI k))]) ?_ rfl (by simp only [smB]; rw [h8]; rfl) rfl rfl
      refine zn_iinc (n := 1) C [(3, .int (nI (k + 1))), (1, .long (smB σ (31 * (nI (σ 0)).toInt64 + (nI (σ 3)).toInt64) (k + 1))), (0, .ref (ra))] dL_sum_69 2 rfl (by decide) rfl ?_
      refine z_goto (tgt := 18) C dL_sum_72 (by decide) ?_
      refine z_lv [2, 1, 0] rfl ?_
      exact ih18 (k + 1) (by omega) (by omega)
theorem hdL_sum : yL_sum.cls ≠ "java/lang/invoke/MethodHandle" ∧ yL_sum.cls ≠ "java/lang/invoke/VarHandle" ∧ (parseMethodDescriptor yL_sum.desc).map (fun d => d.parameters.length) = some 1 := by decide +kernel
end LQ
