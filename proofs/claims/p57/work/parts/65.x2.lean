section X2
variable {p : Program} {l : Launch} {e : Env} {R : Room} {s : State} {m : MethodId} {args : Array Value} {below : List Frame} {meth : Method} {c : Code} {cc : ByteArray} {nL : Nat} {Ts : List Cond} {own : String} {D : va_G} {tys : List (ClassId × FieldType)} {A : Nat → Prop} {cells slots : Nat} {Q : State → Prop} {ws : va_W} {lv : List (Nat × Value)} {pc : Nat} {st : List Value}
theorem z_iushr (C : zC p s m args c cc nL Ts own D tys A) {x y v : Int32} (hdg : decode cc pc = .ok (.iushr, 1)) (hv : (x.toUInt32 >>> (y.toUInt32 &&& Int32.toUInt32 31)).toInt32 = v) (k : zW p l e R s m args below meth c nL D A cells slots Q ws lv (pc + 1) (.int v :: st)) : zW p l e R s m args below meth c nL D A cells slots Q ws lv pc (.int y :: .int x :: st) := fun H locs ls hP hD hS hl => lv_iushr C.1 C.2.1 hdg hv (k H locs ls hP hD hS hl)
theorem z_ldcw (C : zC p s m args c cc nL Ts own D tys A) {index : Nat} {v : Int32} (hc : Cond.constant own index v ∈ Ts) (hdg : decode cc pc = .ok (.ldc_w index, 3)) (k : zW p l e R s m args below meth c nL D A cells slots Q ws lv (pc + 3) (.int v :: st)) : zW p l e R s m args below meth c nL D A cells slots Q ws lv pc st := fun H locs ls hP hD hS hl => lv_ldcw C.1 C.2.1 C.2.2.2.1 (C.2.2.2.2.1 _ hc) hdg (k H locs ls hP hD hS hl)
theorem z_abs (C : zC p s m args c cc nL Ts own D tys A) {x : Int32} {idx : Nat} (hlk : Cond.methodLink own idx Lib.Math.abs.name ∈ Ts) (h1 : Cond.static Lib.Math.abs.name ∈ Ts) (h2 : Cond.initialized "java/lang/Math" ∈ Ts) (h3 : Cond.code Lib.Math.abs.name Lib.Math.abs.code 1 (some .int) ∈ Ts) (hf : 1 ≤ R.frames ∧ 21 ≤ R.locals) (hroom : (st.map fun v => v.category).sum ≤ 8) (hdg : decode cc pc = .ok (.invokestatic idx, 3)) (hc : cells ≤ R.cells ∧ slots ≤ R.slots) (k : zW p l e R s m args below meth c nL D A cells slots Q ws lv (pc + 3) (.int (abI x) :: st)) : zW p l e R s m args below meth c nL D A cells slots Q ws lv pc (.int x :: st) := by
  intro H locs ls hP hD hS hl
  obtain ⟨hx, hb2, hml, hown, hts, hK, hA⟩ := C
  exact va_mabs hx hb2 (hml.trans hl.1.symm) hown (hts _ hlk) (hts _ h1) (hts _ h2) (hts _ h3) hf.1 (by omega) hc.1 hc.2 hdg (k H locs ls hP hD hS hl)
def iuS (x : Int32) (n : Nat) : Int32 := (x.toUInt32 >>> ((nI n).toUInt32 &&& Int32.toUInt32 31)).toInt32
def bc1 (x : Int32) : Int32 := x - (iuS x 1 &&& 1431655765)
def bc2 (x : Int32) : Int32 := (x &&& 858993459) + (iuS x 2 &&& 858993459)
def bc3 (x : Int32) : Int32 := (x + iuS x 4) &&& 252645135
def bc4 (x : Int32) : Int32 := x + iuS x 8
def bc5 (x : Int32) : Int32 := x + iuS x 16
def bcA (x : Int32) : Int32 := bc5 (bc4 (bc3 (bc2 (bc1 x)))) &&& nI 63
def popN (k : Nat) : Nat := k % 2 + k / 2 % 2 + k / 4 % 2 + k / 8 % 2 + k / 16 % 2 + k / 32 % 2 + k / 64 % 2 + k / 128 % 2 + k / 256 % 2 + k / 512 % 2
theorem bcA_all : ∀ k, k < 1024 → bcA (nI k) = nI (popN k) := by decide +kernel
def orN (m d : Nat) : Nat := m ||| 2 ^ d
theorem orN_all : ∀ d, d < 10 → ∀ m, m < 1024 → (nI m ||| (nI 1) <<< (nI d &&& 31)) = nI (orN m d) ∧ orN m d < 1024 ∧ popN (orN m d) = popN m + (if m / 2 ^ d % 2 = 0 then 1 else 0) := by decide +kernel
theorem orN_bit (d e m : Nat) : orN m d / 2 ^ e % 2 = if e = d then 1 else m / 2 ^ e % 2 := by
  have h := Nat.testBit_or m (2 ^ d) e
  rw [Nat.testBit_two_pow, Nat.testBit_eq_decide_div_mod_eq, Nat.testBit_eq_decide_div_mod_eq] at h
  have a := Nat.mod_two_eq_zero_or_one ((m ||| 2 ^ d) / 2 ^ e)
  have b := Nat.mod_two_eq_zero_or_one (m / 2 ^ e)
  show (m ||| 2 ^ d) / 2 ^ e % 2 = _
  by_cases q : e = d
  · rw [if_pos q]
    rw [decide_eq_true q.symm, Bool.or_true] at h
    exact of_decide_eq_true h
  · rw [if_neg q]
    rw [decide_eq_false (show ¬ d = e from fun z => q z.symm), Bool.or_false] at h
    rcases b with b | b
    · rw [b] at h ⊢
      rcases a with a | a
      · exact a
      · rw [a] at h; exact absurd h (by decide)
    · rw [b] at h ⊢
      exact of_decide_eq_true (h.trans (decide_eq_true rfl))
def mkN (σ : Nat → Nat) : Nat → Nat
  | 0 => 0
  | n + 1 => orN (mkN σ n) (σ (5 + 6 * n + 1))
theorem mkN_ok {σ : Nat → Nat} {M : Nat} (hv : Inv M σ) : ∀ n, n ≤ σ 1 → mkN σ n < 1024 ∧ (∀ e, e < 10 → (mkN σ n / 2 ^ e % 2 = 0 ↔ ∀ i, i < n → σ (5 + 6 * i + 1) ≠ e)) ∧ popN (mkN σ n) = sumL (fun i => (fdL σ i i).toNat) n
  | 0, _ => ⟨by simp [mkN], fun e he => ⟨fun _ i hi => absurd hi (Nat.not_lt_zero _), fun _ => by simp [mkN]⟩, by simp [mkN, popN, sumL]⟩
  | n + 1, h => by
    obtain ⟨h1, h2, h3⟩ := mkN_ok hv n (by omega)
    have hd : σ (5 + 6 * n + 1) < 10 := by have := (hv.blk (c := n) (by omega)).2.2.1; omega
    obtain ⟨a1, a2, a3⟩ := orN_all _ hd _ h1
    refine ⟨a2, fun e he => ?_, ?_⟩
    · show orN (mkN σ n) (σ (5 + 6 * n + 1)) / 2 ^ e % 2 = 0 ↔ _
      rw [orN_bit]
      by_cases q : e = σ (5 + 6 * n + 1)
      · rw [if_pos q]
        exact ⟨fun z => absurd z (by decide), fun z => absurd q.symm (z n (by omega))⟩
      · rw [if_neg q, h2 e he]
        refine ⟨fun z i hi => ?_, fun z i hi => z i (by omega)⟩
        by_cases q2 : i = n
        · rw [q2]; exact fun z2 => q z2.symm
        · exact z i (by omega)
    · show popN (orN (mkN σ n) (σ (5 + 6 * n + 1))) = sumL (fun i => (fdL σ i i).toNat) n + (fdL σ n n).toNat
      rw [a3, h3]
      congr 1
      have key : ∀ k, (fdL σ n k = true ↔ ∀ i, i < k → σ (5 + 6 * i + 1) ≠ σ (5 + 6 * n + 1)) := by
        intro k
        induction k with
        | zero => exact ⟨fun _ i hi => absurd hi (Nat.not_lt_zero _), fun _ => rfl⟩
        | succ k ih =>
          simp only [fdL, Bool.and_eq_true, Bool.not_eq_true', decide_eq_false_iff_not]
          rw [ih]
          refine ⟨fun z i hi => ?_, fun z => ⟨fun i hi => z i (by omega), z k (by omega)⟩⟩
          by_cases q2 : i = k
          · rw [q2]; exact z.2
          · exact z.1 i (by omega)
      have h9 := (h2 _ hd).trans (key n).symm
      cases hb : fdL σ n n with
      | true => rw [if_pos (h9.mpr hb)]; rfl
      | false => rw [if_neg (fun z => by rw [h9.mp z] at hb; cases hb)]; rfl
/-- the greatest depth so far, none: -1 -/
def grI (σ : Nat → Nat) (d : Nat) : Int32 := if d = 0 then -1 else nI (σ (5 + 6 * (d - 1) + 1))
theorem gr_le {σ : Nat → Nat} {x d : Nat} (hx : x < 2147483648) (hd : d ≠ 0 → σ (5 + 6 * (d - 1) + 1) < 2147483648) : (nI x ≤ grI σ d) ↔ (d ≠ 0 ∧ x ≤ σ (5 + 6 * (d - 1) + 1)) := by
  simp only [grI]
  split
  · rename_i h
    exact ⟨fun q => absurd (Int32.le_trans (nI_pos' hx) q) (by decide), fun q => absurd h q.1⟩
  · rename_i h
    rw [zq_le hx (hd h)]
    exact ⟨fun q => ⟨h, q⟩, fun q => q.2⟩
theorem ah_go {σ : Nat → Nat} {p b : Nat} (hn : dst σ p (aft σ b) ≠ 0) (hp : p < σ 1) (hb : b < σ 1) : aft σ b ≠ p ∧ ahd σ (dst σ p (aft σ b)) (aft σ b) = (if trAt σ (aft σ b) = 0 then ahd σ (dst σ p (aft σ (aft σ b))) (aft σ (aft σ b)) else aft σ b) ∧ dst σ p (aft σ (aft σ b)) + 1 = dst σ p (aft σ b) := by
  have h1 : aft σ b ≠ p := fun q => hn (by rw [q]; simp [dst])
  have h2 := dst_aft hp (aft_lt hb) h1
  refine ⟨h1, ?_, h2⟩
  rw [← h2]
  rfl
theorem dst_0 {σ : Nat → Nat} {p b : Nat} (hp : p < σ 1) (hb : b < σ 1) (h : dst σ p b = 0) : b = p := by
  simp only [dst] at h
  split at h <;> omega
theorem dst_1 {σ : Nat → Nat} {p : Nat} (hp : p < σ 1) : dst σ p (aft σ p) + 1 = σ 1 := by
  simp only [dst, aft]
  split <;> split <;> omega
theorem cb_go {σ : Nat → Nat} {t b : Nat} (ht : t < σ 2) (hp : σ (65 + 5 * t + 2) < σ 1) (hb : b < σ 1) (ho : occ σ b = false) : cbL σ (dst σ (σ (65 + 5 * t + 2)) b + 1) b = 1 + cbL σ (dst σ (σ (65 + 5 * t + 2)) (aft σ b) + 1) (aft σ b) ∧ dst σ (σ (65 + 5 * t + 2)) (aft σ b) + 1 = dst σ (σ (65 + 5 * t + 2)) b := by
  have h1 : b ≠ σ (65 + 5 * t + 2) := fun q => by rw [q, occ_pl ht] at ho; cases ho
  have h2 := dst_aft hp hb h1
  refine ⟨?_, h2⟩
  show (if occ σ b = true then 0 else 1 + cbL σ (dst σ _ b) (aft σ b)) = _
  rw [if_neg (by rw [ho]; decide), h2]
set_option maxRecDepth 100000 in
set_option maxHeartbeats 4000000 in
theorem mJ6_bitCount_0f7a4 (l : Launch) (D : va_G) (κ : Nat → ClassId) (x : Int32) : sM l yJ6_bitCount_0f7a4 wsJ6_bitCount_0f7a4 { frames := 0, cells := 0, slots := 0, locals := 0 } D κ [.int x] (some (.int (bcA x))) := by
  refine zM_of (cc := cJ6_bitCount_0f7a4) (maxL := 1) (rt := (some .int)) [(0, .int x)] (by decide +kernel) rfl (Nat.le_of_ble_eq_true rfl) rfl ?_
  intro p e s m args below meth c A C hr9 hk hnm
  have C : zC p s m args c cJ6_bitCount_0f7a4 1 wsJ6_bitCount_0f7a4 RJ6 D (zTy κ) A := C
  refine z_iload_n C dJ6_bitCount_0f7a4_0 0 rfl ?_
  refine z_iload_n C dJ6_bitCount_0f7a4_1 0 rfl ?_
  refine z_iconst (v := nI 1) C dJ6_bitCount_0f7a4_2 (by decide) ?_
  refine z_iushr (v := iuS (x) 1) C dJ6_bitCount_0f7a4_3 rfl ?_
  refine z_ldcw (v := 1431655765) C (show Cond.constant RJ6 265 1431655765 ∈ wsJ6_bitCount_0f7a4 from by decide +kernel) dJ6_bitCount_0f7a4_4 ?_
  refine z_iand C dJ6_bitCount_0f7a4_7 ?_
  refine z_isub C dJ6_bitCount_0f7a4_8 ?_
  refine z_istore_n C [(0, .int (bc1 x))] dJ6_bitCount_0f7a4_9 (by decide) rfl ?_
  refine z_iload_n C dJ6_bitCount_0f7a4_10 0 rfl ?_
  refine z_ldcw (v := 858993459) C (show Cond.constant RJ6 266 858993459 ∈ wsJ6_bitCount_0f7a4 from by decide +kernel) dJ6_bitCount_0f7a4_11 ?_
  refine z_iand C dJ6_bitCount_0f7a4_14 ?_
  refine z_iload_n C dJ6_bitCount_0f7a4_15 0 rfl ?_
  refine z_iconst (v := nI 2) C dJ6_bitCount_0f7a4_16 (by decide) ?_
  refine z_iushr (v := iuS ((bc1 x)) 2) C dJ6_bitCount_0f7a4_17 rfl ?_
  refine z_ldcw (v := 858993459) C (show Cond.constant RJ6 266 858993459 ∈ wsJ6_bitCount_0f7a4 from by decide +kernel) dJ6_bitCount_0f7a4_18 ?_
  refine z_iand C dJ6_bitCount_0f7a4_21 ?_
  refine z_iadd C dJ6_bitCount_0f7a4_22 ?_
  refine z_istore_n C [(0, .int (bc2 (bc1 x)))] dJ6_bitCount_0f7a4_23 (by decide) rfl ?_
  refine z_iload_n C dJ6_bitCount_0f7a4_24 0 rfl ?_
  refine z_iload_n C dJ6_bitCount_0f7a4_25 0 rfl ?_
  refine z_iconst (v := nI 4) C dJ6_bitCount_0f7a4_26 (by decide) ?_
  refine z_iushr (v := iuS ((bc2 (bc1 x))) 4) C dJ6_bitCount_0f7a4_27 rfl ?_
  refine z_iadd C dJ6_bitCount_0f7a4_28 ?_
  refine z_ldcw (v := 252645135) C (show Cond.constant RJ6 267 252645135 ∈ wsJ6_bitCount_0f7a4 from by decide +kernel) dJ6_bitCount_0f7a4_29 ?_
  refine z_iand C dJ6_bitCount_0f7a4_32 ?_
  refine z_istore_n C [(0, .int (bc3 (bc2 (bc1 x))))] dJ6_bitCount_0f7a4_33 (by decide) rfl ?_
  refine z_iload_n C dJ6_bitCount_0f7a4_34 0 rfl ?_
  refine z_iload_n C dJ6_bitCount_0f7a4_35 0 rfl ?_
  refine z_bipush (v := nI 8) C dJ6_bitCount_0f7a4_36 (by decide) ?_
  refine z_iushr (v := iuS ((bc3 (bc2 (bc1 x)))) 8) C dJ6_bitCount_0f7a4_38 rfl ?_
  refine z_iadd C dJ6_bitCount_0f7a4_39 ?_
  refine z_istore_n C [(0, .int (bc4 (bc3 (bc2 (bc1 x)))))] dJ6_bitCount_0f7a4_40 (by decide) rfl ?_
  refine z_iload_n C dJ6_bitCount_0f7a4_41 0 rfl ?_
  refine z_iload_n C dJ6_bitCount_0f7a4_42 0 rfl ?_
  refine z_bipush (v := nI 16) C dJ6_bitCount_0f7a4_43 (by decide) ?_
  refine z_iushr (v := iuS ((bc4 (bc3 (bc2 (bc1 x))))) 16) C dJ6_bitCount_0f7a4_45 rfl ?_
  refine z_iadd C dJ6_bitCount_0f7a4_46 ?_
  refine z_istore_n C [(0, .int (bc5 (bc4 (bc3 (bc2 (bc1 x))))))] dJ6_bitCount_0f7a4_47 (by decide) rfl ?_
  refine z_iload_n C dJ6_bitCount_0f7a4_48 0 rfl ?_
  refine z_bipush (v := nI 63) C dJ6_bitCount_0f7a4_49 (by decide) ?_
  refine z_iand C dJ6_bitCount_0f7a4_51 ?_
  exact z_iret C hr9 hk () rfl trivial (List.Perm.of_eq rfl) dJ6_bitCount_0f7a4_52 (Nat.le_refl _) (Nat.le_refl _)
theorem hdJ6_bitCount_0f7a4 : yJ6_bitCount_0f7a4.cls ≠ "java/lang/invoke/MethodHandle" ∧ yJ6_bitCount_0f7a4.cls ≠ "java/lang/invoke/VarHandle" ∧ (parseMethodDescriptor yJ6_bitCount_0f7a4.desc).map (fun d => d.parameters.length) = some 1 := by decide +kernel
section X2R
set_option maxRecDepth 100000 in
set_option maxHeartbeats 4000000 in
theorem mX5_freeLevers (l : Launch) (D : va_G) (κ : Nat → ClassId) (Sa : Nat → Nat) (g : Nat → Nat → Nat) (ra f9 h9 a9 b9 p9 o9 : Nat) (σ : Nat → Nat) (M : Nat)  (hr : Rep g σ) (hv : Inv M σ) : zM l yX5_freeLevers wsX5_freeLevers { frames := 2, cells := 0, slots := 0, locals := 42 } D (zTy κ) [.ref ra] (SW κ Sa g ++ (RC ra (Sa 0) f9 h9 a9 b9 p9 o9)) (S := Unit) (fun _ => (some (.int (nI (sumL (fun i => if rsn σ i = 0 then 1 else 0) (σ 1)))))) (fun _ => True) (fun _ => SW κ Sa g ++ (RC ra (Sa 0) f9 h9 a9 b9 p9 o9)) 0 0 := by
  refine zM_of (cc := cX5_freeLevers) (maxL := 3) (rt := (some .int)) [(0, .ref (ra))] (by decide +kernel) rfl (Nat.le_of_ble_eq_true rfl) rfl ?_
  intro p e s m args below meth c A C hr9 hk hnm
  have C : zC p s m args c cX5_freeLevers 3 wsX5_freeLevers RX5 D (zTy κ) A := C
  have hin5 : ∀ w ∈ wsX50, w ∈ wsX5_freeLevers := fun w h => List.mem_cons_of_mem _ (List.mem_append_left _ (List.mem_append_right _ h))
  have hin4 : ∀ w ∈ wsX40, w ∈ wsX5_freeLevers := fun w h => List.mem_cons_of_mem _ (List.mem_append_right _ h)
  have k10 : Cond.fieldLink RX5 10 "PeatRailway" "current" "LPeatRailway$State;" ∈ wsX5_freeLevers := by decide +kernel
  have k107 : Cond.fieldLink RX5 107 "PeatRailway$State" "blockCount" "I" ∈ wsX5_freeLevers := by decide +kernel
  refine z_eq (ws' := SW κ Sa g ++ (RC ra (Sa 0) f9 h9 a9 b9 p9 o9 ++ [])) ?_ rfl rfl rfl rfl
  have hn1 := hv.n1
  have hn2 := hv.n2
  refine z_iconst (v := nI 0) C dX5_freeLevers_0 (by decide) ?_
  refine z_istore_n C [(1, .int (nI 0)), (0, .ref (ra))] dX5_freeLevers_1 (by decide) rfl ?_
  refine z_iconst (v := nI 0) C dX5_freeLevers_2 (by decide) ?_
  refine z_istore_n C [(2, .int (nI 0)), (1, .int (nI 0)), (0, .ref (ra))] dX5_freeLevers_3 (by decide) rfl ?_
  refine z_lv [2, 1, 0] rfl ?_
  refine z_loop (σ := Nat × Nat) (fun x => SW κ Sa g ++ (RC ra (Sa 0) f9 h9 a9 b9 p9 o9 ++ [])) (fun x => [(0, .ref (ra)), (1, .int (nI x.2)), (2, .int (nI x.1))]) (fun x => x.1 ≤ σ 1 ∧ x.2 = sumL (fun i => if rsn σ i = 0 then 1 else 0) x.1) (fun x => σ 1 - x.1) ((0, 0)) (⟨Nat.zero_le _, rfl⟩) rfl rfl ?_
  rintro ⟨k, c0⟩ hI4 ih4
  dsimp only at hI4 ih4 ⊢
  obtain ⟨hi1, hi2⟩ := hI4
  have hrs9 := rsn_le σ k
  refine z_iload_n C dX5_freeLevers_4 2 rfl ?_
  refine z_aload_n C dX5_freeLevers_5 0 rfl ?_
  refine z_get C hin5 13 rfl rfl 0 (by decide) k10 rfl dX5_freeLevers_6 ?_
  refine zs_get_blockCount C hin4 (x := σ 1) k107 dX5_freeLevers_9 hr.1.s1 ?_
  refine zn_icmp_ge C 35 dX5_freeLevers_12 (by decide) (by omega) (by omega) (fun h1 => ?_) (fun h2 => ?_)
  · refine z_iload_n C dX5_freeLevers_35 1 rfl ?_
    exact z_iret C hr9 hk (()) (congrArg (fun n => some (Value.int (nI n))) (show sumL (fun i => if rsn σ i = 0 then 1 else 0) (σ 1) = c0 from by rw [hi2, show k = σ 1 from by omega])) (trivial) (List.Perm.of_eq rfl) dX5_freeLevers_36 (Nat.le_refl _) (Nat.le_refl _)
  · refine z_aload_n C dX5_freeLevers_15 0 rfl ?_
    refine z_get C hin5 13 rfl rfl 0 (by decide) k10 rfl dX5_freeLevers_16 ?_
    refine z_iload_n C dX5_freeLevers_19 2 rfl ?_
    refine zc_call C (mX4_leverObstacle l D κ Sa _ _ _ k hr hv (by omega)) gX5_freeLevers_X4_leverObstacle rfl rfl rfl hdX4_leverObstacle ⟨Nat.le_of_ble_eq_true rfl, Nat.le_of_ble_eq_true rfl⟩ rfl (Nat.le_of_ble_eq_true rfl) dX5_freeLevers_20 ⟨Nat.zero_le _, Nat.zero_le _⟩ ?_
    refine zn_if_ne C 29 dX5_freeLevers_23 (by decide) (by omega) (fun h3 => ?_) (fun h4 => ?_)
    · refine zn_iinc (n := 1) C [(2, .int (nI (k + 1))), (0, .ref (ra)), (1, .int (nI c0))] dX5_freeLevers_29 2 rfl (by decide) rfl ?_
      refine z_goto (tgt := 4) C dX5_freeLevers_32 (by decide) ?_
      refine z_lv [1, 2, 0] rfl ?_
      exact ih4 (k + 1, c0) ⟨by dsimp only; omega, by dsimp only; rw [hi2]; simp only [sumL]; split <;> omega⟩ (by dsimp only; omega)
    · refine zn_iinc (n := 1) C [(1, .int (nI (c0 + 1))), (0, .ref (ra)), (2, .int (nI k))] dX5_freeLevers_26 1 rfl (by decide) rfl ?_
      refine zn_iinc (n := 1) C [(2, .int (nI (k + 1))), (1, .int (nI (c0 + 1))), (0, .ref (ra))] dX5_freeLevers_29 2 rfl (by decide) rfl ?_
      refine z_goto (tgt := 4) C dX5_freeLevers_32 (by decide) ?_
      refine z_lv [2, 1, 0] rfl ?_
      exact ih4 (k + 1, c0 + 1) ⟨by dsimp only; omega, by dsimp only; rw [hi2]; simp only [sumL]; split <;> omega⟩ (by dsimp only; omega)
theorem hdX5_freeLevers : yX5_freeLevers.cls = RX5 ∧ yX5_freeLevers.cls ≠ "java/lang/invoke/MethodHandle" ∧ yX5_freeLevers.cls ≠ "java/lang/invoke/VarHandle" ∧ (parseMethodDescriptor yX5_freeLevers.desc).map (fun d => d.parameters.length) = some 0 := by decide +kernel
set_option maxRecDepth 100000 in
set_option maxHeartbeats 4000000 in
theorem mX5_emptyBlocks (l : Launch) (D : va_G) (κ : Nat → ClassId) (Sa : Nat → Nat) (g : Nat → Nat → Nat) (ra f9 h9 a9 b9 p9 o9 : Nat) (σ : Nat → Nat) (M : Nat)  (hr : Rep g σ) (hv : Inv M σ) : zM l yX5_emptyBlocks wsX5_emptyBlocks { frames := 1, cells := 0, slots := 0, locals := 21 } D (zTy κ) [.ref ra] (SW κ Sa g ++ (RC ra (Sa 0) f9 h9 a9 b9 p9 o9)) (S := Unit) (fun _ => (some (.int (nI (sumL (fun i => (!occ σ i).toNat) (σ 1)))))) (fun _ => True) (fun _ => SW κ Sa g ++ (RC ra (Sa 0) f9 h9 a9 b9 p9 o9)) 0 0 := by
  refine zM_of (cc := cX5_emptyBlocks) (maxL := 3) (rt := (some .int)) [(0, .ref (ra))] (by decide +kernel) rfl (Nat.le_of_ble_eq_true rfl) rfl ?_
  intro p e s m args below meth c A C hr9 hk hnm
  have C : zC p s m args c cX5_emptyBlocks 3 wsX5_emptyBlocks RX5 D (zTy κ) A := C
  have hin5 : ∀ w ∈ wsX50, w ∈ wsX5_emptyBlocks := fun w h => List.mem_cons_of_mem _ (List.mem_append_left _ (List.mem_append_right _ h))
  have hin4 : ∀ w ∈ wsX40, w ∈ wsX5_emptyBlocks := fun w h => List.mem_cons_of_mem _ (List.mem_append_right _ h)
  have k10 : Cond.fieldLink RX5 10 "PeatRailway" "current" "LPeatRailway$State;" ∈ wsX5_emptyBlocks := by decide +kernel
  have k107 : Cond.fieldLink RX5 107 "PeatRailway$State" "blockCount" "I" ∈ wsX5_emptyBlocks := by decide +kernel
  refine z_eq (ws' := SW κ Sa g ++ (RC ra (Sa 0) f9 h9 a9 b9 p9 o9 ++ [])) ?_ rfl rfl rfl rfl
  have hn1 := hv.n1
  have hn2 := hv.n2
  refine z_iconst (v := nI 0) C dX5_emptyBlocks_0 (by decide) ?_
  refine z_istore_n C [(1, .int (nI 0)), (0, .ref (ra))] dX5_emptyBlocks_1 (by decide) rfl ?_
  refine z_iconst (v := nI 0) C dX5_emptyBlocks_2 (by decide) ?_
  refine z_istore_n C [(2, .int (nI 0)), (1, .int (nI 0)), (0, .ref (ra))] dX5_emptyBlocks_3 (by decide) rfl ?_
  refine z_lv [2, 1, 0] rfl ?_
  refine z_loop (σ := Nat × Nat) (fun x => SW κ Sa g ++ (RC ra (Sa 0) f9 h9 a9 b9 p9 o9 ++ [])) (fun x => [(0, .ref (ra)), (1, .int (nI x.2)), (2, .int (nI x.1))]) (fun x => x.1 ≤ σ 1 ∧ x.2 = sumL (fun i => (!occ σ i).toNat) x.1) (fun x => σ 1 - x.1) ((0, 0)) (⟨Nat.zero_le _, rfl⟩) rfl rfl ?_
  rintro ⟨k, c0⟩ hI4 ih4
  dsimp only at hI4 ih4 ⊢
  obtain ⟨hi1, hi2⟩ := hI4
  have hrs9 := rsn_le σ k
  refine z_iload_n C dX5_emptyBlocks_4 2 rfl ?_
  refine z_aload_n C dX5_emptyBlocks_5 0 rfl ?_
  refine z_get C hin5 13 rfl rfl 0 (by decide) k10 rfl dX5_emptyBlocks_6 ?_
  refine zs_get_blockCount C hin4 (x := σ 1) k107 dX5_emptyBlocks_9 hr.1.s1 ?_
  refine zn_icmp_ge C 35 dX5_emptyBlocks_12 (by decide) (by omega) (by omega) (fun h1 => ?_) (fun h2 => ?_)
  · refine z_iload_n C dX5_emptyBlocks_35 1 rfl ?_
    exact z_iret C hr9 hk (()) (congrArg (fun n => some (Value.int (nI n))) (show sumL (fun i => (!occ σ i).toNat) (σ 1) = c0 from by rw [hi2, show k = σ 1 from by omega])) (trivial) (List.Perm.of_eq rfl) dX5_emptyBlocks_36 (Nat.le_refl _) (Nat.le_refl _)
  · refine z_aload_n C dX5_emptyBlocks_15 0 rfl ?_
    refine z_get C hin5 13 rfl rfl 0 (by decide) k10 rfl dX5_emptyBlocks_16 ?_
    refine z_iload_n C dX5_emptyBlocks_19 2 rfl ?_
    refine zc_call C (mX4_occupied l D κ Sa _ _ _ k hr hv (by omega)) gX5_emptyBlocks_X4_occupied rfl rfl rfl hdX4_occupied ⟨Nat.le_of_ble_eq_true rfl, Nat.le_of_ble_eq_true rfl⟩ rfl (Nat.le_of_ble_eq_true rfl) dX5_emptyBlocks_20 ⟨Nat.zero_le _, Nat.zero_le _⟩ ?_
    refine zb_if_ne C 29 dX5_emptyBlocks_23 (by decide) (fun h3 => ?_) (fun h4 => ?_)
    · refine zn_iinc (n := 1) C [(2, .int (nI (k + 1))), (0, .ref (ra)), (1, .int (nI c0))] dX5_emptyBlocks_29 2 rfl (by decide) rfl ?_
      refine z_goto (tgt := 4) C dX5_emptyBlocks_32 (by decide) ?_
      refine z_lv [1, 2, 0] rfl ?_
      exact ih4 (k + 1, c0) ⟨by dsimp only; omega, by dsimp only; rw [hi2]; simp only [sumL]; rw [h3]; rfl⟩ (by dsimp only; omega)
    · refine zn_iinc (n := 1) C [(1, .int (nI (c0 + 1))), (0, .ref (ra)), (2, .int (nI k))] dX5_emptyBlocks_26 1 rfl (by decide) rfl ?_
      refine zn_iinc (n := 1) C [(2, .int (nI (k + 1))), (1, .int (nI (c0 + 1))), (0, .ref (ra))] dX5_emptyBlocks_29 2 rfl (by decide) rfl ?_
      refine z_goto (tgt := 4) C dX5_emptyBlocks_32 (by decide) ?_
      refine z_lv [2, 1, 0] rfl ?_
      exact ih4 (k + 1, c0 + 1) ⟨by dsimp only; omega, by dsimp only; rw [hi2]; simp only [sumL]; rw [h4]; rfl⟩ (by dsimp only; omega)
theorem hdX5_emptyBlocks : yX5_emptyBlocks.cls = RX5 ∧ yX5_emptyBlocks.cls ≠ "java/lang/invoke/MethodHandle" ∧ yX5_emptyBlocks.cls ≠ "java/lang/invoke/VarHandle" ∧ (parseMethodDescriptor yX5_emptyBlocks.desc).map (fun d => d.parameters.length) = some 0 := by decide +kernel
set_option maxRecDepth 100000 in
set_option maxHeartbeats 4000000 in
theorem mX5_departuresFrom_ok (l : Launch) (D : va_G) (κ : Nat → ClassId) (Sa : Nat → Nat) (g : Nat → Nat → Nat) (ra f9 h9 a9 b9 p9 o9 : Nat) (σ : Nat → Nat) (M : Nat) (b : Nat) (hr : Rep g σ) (hv : Inv M σ) (hb : b < σ 1) : zM l yX5_departuresFrom wsX5_departuresFrom { frames := 1, cells := 0, slots := 0, locals := 22 } D (zTy κ) [.ref ra, .int (nI b)] (SW κ Sa g ++ (RC ra (Sa 0) f9 h9 a9 b9 p9 o9)) (S := Unit) (fun _ => (some (.int (nI (sumL (fun i => σ (90 + 10 * i + b)) (σ 2)))))) (fun _ => True) (fun _ => SW κ Sa g ++ (RC ra (Sa 0) f9 h9 a9 b9 p9 o9)) 0 0 := by
  refine zM_of (cc := cX5_departuresFrom) (maxL := 4) (rt := (some .int)) [(0, .ref (ra)), (1, .int (nI b))] (by decide +kernel) rfl (Nat.le_of_ble_eq_true rfl) rfl ?_
  intro p e s m args below meth c A C hr9 hk hnm
  have C : zC p s m args c cX5_departuresFrom 4 wsX5_departuresFrom RX5 D (zTy κ) A := C
  have hin5 : ∀ w ∈ wsX50, w ∈ wsX5_departuresFrom := fun w h => List.mem_cons_of_mem _ (List.mem_append_left _ (List.mem_append_left _ (List.mem_append_right _ h)))
  have hin4 : ∀ w ∈ wsX40, w ∈ wsX5_departuresFrom := fun w h => List.mem_cons_of_mem _ (List.mem_append_left _ (List.mem_append_right _ h))
  have k10 : Cond.fieldLink RX5 10 "PeatRailway" "current" "LPeatRailway$State;" ∈ wsX5_departuresFrom := by decide +kernel
  have k145 : Cond.fieldLink RX5 145 "PeatRailway$State" "trainCount" "I" ∈ wsX5_departuresFrom := by decide +kernel
  refine z_eq (ws' := SW κ Sa g ++ (RC ra (Sa 0) f9 h9 a9 b9 p9 o9 ++ [])) ?_ rfl rfl rfl rfl
  have hn1 := hv.n1
  have hn2 := hv.n2
  refine z_aload_n C dX5_departuresFrom_0 0 rfl ?_
  refine z_iload_n C dX5_departuresFrom_1 1 rfl ?_
  refine z_callV C (mX5_requireBlock_ok l D κ Sa _ ra f9 h9 a9 b9 p9 o9 σ M b hr hv (by omega)) gX5_departuresFrom_X5_requireBlock rfl rfl rfl hdX5_requireBlock ⟨Nat.le_of_ble_eq_true rfl, Nat.le_of_ble_eq_true rfl⟩ 13 rfl rfl [] (fun _ => SW κ Sa g ++ (RC ra (Sa 0) f9 h9 a9 b9 p9 o9 ++ [])) (List.Perm.refl _) (fun _ => List.Perm.refl _) rfl (Nat.le_of_ble_eq_true rfl) dX5_departuresFrom_2 ⟨Nat.zero_le _, Nat.zero_le _⟩ (fun _ _ => ?_)
  refine z_iconst (v := nI 0) C dX5_departuresFrom_5 (by decide) ?_
  refine z_istore_n C [(2, .int (nI 0)), (0, .ref (ra)), (1, .int (nI b))] dX5_departuresFrom_6 (by decide) rfl ?_
  refine z_iconst (v := nI 0) C dX5_departuresFrom_7 (by decide) ?_
  refine z_istore_n C [(3, .int (nI 0)), (2, .int (nI 0)), (0, .ref (ra)), (1, .int (nI b))] dX5_departuresFrom_8 (by decide) rfl ?_
  refine z_lv [2, 3, 1, 0] rfl ?_
  refine z_loop (σ := Nat) (fun k => SW κ Sa g ++ (RC ra (Sa 0) f9 h9 a9 b9 p9 o9 ++ [])) (fun k => [(0, .ref (ra)), (1, .int (nI b)), (2, .int (nI (sumL (fun i => σ (90 + 10 * i + b)) k))), (3, .int (nI k))]) (fun k => k ≤ σ 2) (fun k => σ 2 - k) (0) (Nat.zero_le _) rfl rfl ?_
  rintro k hI9 ih9
  refine z_iload_n C dX5_departuresFrom_9 3 rfl ?_
  refine z_aload_n C dX5_departuresFrom_10 0 rfl ?_
  refine z_get C hin5 13 rfl rfl 0 (by decide) k10 rfl dX5_departuresFrom_11 ?_
  refine zs_get_trainCount C hin4 (x := σ 2) k145 dX5_departuresFrom_14 hr.1.s2 ?_
  refine zn_icmp_ge C 38 dX5_departuresFrom_17 (by decide) (by omega) (by omega) (fun h1 => ?_) (fun h2 => ?_)
  · refine z_iload_n C dX5_departuresFrom_38 2 rfl ?_
    exact z_iret C hr9 hk (()) (congrArg (fun n => some (Value.int (nI n))) (show sumL (fun i => σ (90 + 10 * i + b)) (σ 2) = sumL (fun i => σ (90 + 10 * i + b)) k from by rw [show k = σ 2 from by omega])) (trivial) (List.Perm.of_eq rfl) dX5_departuresFrom_39 (Nat.le_refl _) (Nat.le_refl _)
  · refine z_iload_n C dX5_departuresFrom_20 2 rfl ?_
    refine z_aload_n C dX5_departuresFrom_21 0 rfl ?_
    refine z_get C hin5 13 rfl rfl 0 (by decide) k10 rfl dX5_departuresFrom_22 ?_
    refine z_iload_n C dX5_departuresFrom_25 3 rfl ?_
    refine z_iload_n C dX5_departuresFrom_26 1 rfl ?_
    refine zc_call C (mX4_passagesOf l D κ Sa _ _ _ k b hr hv (by omega) (by omega)) gX5_departuresFrom_X4_passagesOf rfl rfl rfl hdX4_passagesOf ⟨Nat.le_of_ble_eq_true rfl, Nat.le_of_ble_eq_true rfl⟩ rfl (Nat.le_of_ble_eq_true rfl) dX5_departuresFrom_27 ⟨Nat.zero_le _, Nat.zero_le _⟩ ?_
    refine zn_iadd C dX5_departuresFrom_30 ?_
    refine z_istore_n C [(2, .int (nI ((sumL (fun i => σ (90 + 10 * i + b)) k) + (σ (90 + 10 * k + b))))), (0, .ref (ra)), (1, .int (nI b)), (3, .int (nI k))] dX5_departuresFrom_31 (by decide) rfl ?_
    refine zn_iinc (n := 1) C [(3, .int (nI (k + 1))), (2, .int (nI ((sumL (fun i => σ (90 + 10 * i + b)) k) + (σ (90 + 10 * k + b))))), (0, .ref (ra)), (1, .int (nI b))] dX5_departuresFrom_32 3 rfl (by decide) rfl ?_
    refine z_goto (tgt := 9) C dX5_departuresFrom_35 (by decide) ?_
    refine z_lv [2, 3, 1, 0] rfl ?_
    exact ih9 (k + 1) (by omega) (by omega)
theorem hdX5_departuresFrom : yX5_departuresFrom.cls = RX5 ∧ yX5_departuresFrom.cls ≠ "java/lang/invoke/MethodHandle" ∧ yX5_departuresFrom.cls ≠ "java/lang/invoke/VarHandle" ∧ (parseMethodDescriptor yX5_departuresFrom.desc).map (fun d => d.parameters.length) = some 1 := by decide +kernel
set_option maxRecDepth 100000 in
set_option maxHeartbeats 4000000 in
theorem mX5_departuresFrom_no (l : Launch) (D : va_G) (κ : Nat → ClassId) (adK adV : Nat → Nat) (Sa : Nat → Nat) (g : Nat → Nat → Nat) (ra f9 h9 a9 b9 p9 o9 : Nat) (σ : Nat → Nat) (M : Nat) (x : Int32) (hls : l.stackTraces = false) (hr : Rep g σ) (hv : Inv M σ) (hx : isB (σ 1) x = false) : zX (aX adK adV) l yX5_departuresFrom wsX5_departuresFrom { frames := 7, cells := 1, slots := 6, locals := 103 } D (zTy κ) [.ref (ra), .int (x)] (SW κ Sa g ++ (RC ra (Sa 0) f9 h9 a9 b9 p9 o9)) eIB (S := Unit) (fun _ => True) (fun _ => SW κ Sa g ++ (RC ra (Sa 0) f9 h9 a9 b9 p9 o9)) 1 6 := by
  refine zX_of (cc := cX5_departuresFrom) (maxL := 4) (rt := (some .int)) [(0, .ref (ra)), (1, .int (x))] (by decide +kernel) rfl (Nat.le_of_ble_eq_true rfl) rfl ?_
  intro p e s m args below meth c A C hk htab hX
  have C : zC p s m args c cX5_departuresFrom 4 wsX5_departuresFrom RX5 D (zTy κ) A := C
  have hin5 : ∀ w ∈ wsX50, w ∈ wsX5_departuresFrom := fun w h => List.mem_cons_of_mem _ (List.mem_append_left _ (List.mem_append_left _ (List.mem_append_right _ h)))
  have hin4 : ∀ w ∈ wsX40, w ∈ wsX5_departuresFrom := fun w h => List.mem_cons_of_mem _ (List.mem_append_left _ (List.mem_append_right _ h))
  have k10 : Cond.fieldLink RX5 10 "PeatRailway" "current" "LPeatRailway$State;" ∈ wsX5_departuresFrom := by decide +kernel
  have k145 : Cond.fieldLink RX5 145 "PeatRailway$State" "trainCount" "I" ∈ wsX5_departuresFrom := by decide +kernel
  refine z_eq (ws' := SW κ Sa g ++ (RC ra (Sa 0) f9 h9 a9 b9 p9 o9 ++ [])) ?_ rfl rfl rfl rfl
  have hn1 := hv.n1
  have hn2 := hv.n2
  refine z_aload_n C dX5_departuresFrom_0 0 rfl ?_
  refine z_iload_n C dX5_departuresFrom_1 1 rfl ?_
  exact zx_callV C htab hk (aX_ok adK adV) hX (mX5_requireBlock_no l D κ adK adV Sa _ ra f9 h9 a9 b9 p9 o9 σ M (x) hls hr hv hx) gX5_departuresFrom_X5_requireBlock rfl rfl rfl hdX5_requireBlock ⟨(Nat.le_of_ble_eq_true rfl), (Nat.le_of_ble_eq_true rfl)⟩ 13 rfl rfl [] (List.Perm.refl _) rfl (Nat.le_of_ble_eq_true rfl) dX5_departuresFrom_2 ⟨(Nat.le_of_ble_eq_true rfl), (Nat.le_of_ble_eq_true rfl)⟩ (Nat.le_of_ble_eq_true rfl) (Nat.le_of_ble_eq_true rfl) (fun u _ => ⟨(), trivial, List.Perm.of_eq rfl⟩)
set_option maxRecDepth 100000 in
set_option maxHeartbeats 4000000 in
theorem mX5_deepestBlock (l : Launch) (D : va_G) (κ : Nat → ClassId) (Sa : Nat → Nat) (g : Nat → Nat → Nat) (ra f9 h9 a9 b9 p9 o9 : Nat) (σ : Nat → Nat) (M : Nat)  (hr : Rep g σ) (hv : Inv M σ) : zM l yX5_deepestBlock wsX5_deepestBlock { frames := 0, cells := 0, slots := 0, locals := 0 } D (zTy κ) [.ref ra] (SW κ Sa g ++ (RC ra (Sa 0) f9 h9 a9 b9 p9 o9)) (S := Unit) (fun _ => (some (.int (tI (dpL σ (σ 1)))))) (fun _ => True) (fun _ => SW κ Sa g ++ (RC ra (Sa 0) f9 h9 a9 b9 p9 o9)) 0 0 := by
  refine zM_of (cc := cX5_deepestBlock) (maxL := 4) (rt := (some .int)) [(0, .ref (ra))] (by decide +kernel) rfl (Nat.le_of_ble_eq_true rfl) rfl ?_
  intro p e s m args below meth c A C hr9 hk hnm
  have C : zC p s m args c cX5_deepestBlock 4 wsX5_deepestBlock RX5 D (zTy κ) A := C
  have hin5 : ∀ w ∈ wsX50, w ∈ wsX5_deepestBlock := fun w h => List.mem_cons_of_mem _ (List.mem_append_left _ (List.mem_append_right _ h))
  have hin4 : ∀ w ∈ wsX40, w ∈ wsX5_deepestBlock := fun w h => List.mem_cons_of_mem _ (List.mem_append_right _ h)
  have k10 : Cond.fieldLink RX5 10 "PeatRailway" "current" "LPeatRailway$State;" ∈ wsX5_deepestBlock := by decide +kernel
  have k107 : Cond.fieldLink RX5 107 "PeatRailway$State" "blockCount" "I" ∈ wsX5_deepestBlock := by decide +kernel
  have k125 : Cond.fieldLink RX5 125 "PeatRailway$State" "depth" "[I" ∈ wsX5_deepestBlock := by decide +kernel
  refine z_eq (ws' := SW κ Sa g ++ (RC ra (Sa 0) f9 h9 a9 b9 p9 o9 ++ [])) ?_ rfl rfl rfl rfl
  have hn1 := hv.n1
  have hn2 := hv.n2
  refine z_iconst (v := (-1)) C dX5_deepestBlock_0 (by decide) ?_
  refine z_istore_n C [(1, .int ((-1 : Int32))), (0, .ref (ra))] dX5_deepestBlock_1 (by decide) rfl ?_
  refine z_iconst (v := (-1)) C dX5_deepestBlock_2 (by decide) ?_
  refine z_istore_n C [(2, .int ((-1 : Int32))), (1, .int ((-1 : Int32))), (0, .ref (ra))] dX5_deepestBlock_3 (by decide) rfl ?_
  refine z_iconst (v := nI 0) C dX5_deepestBlock_4 (by decide) ?_
  refine z_istore_n C [(3, .int (nI 0)), (2, .int ((-1 : Int32))), (1, .int ((-1 : Int32))), (0, .ref (ra))] dX5_deepestBlock_5 (by decide) rfl ?_
  refine z_lv [3, 2, 1, 0] rfl ?_
  refine z_loop (σ := Nat) (fun k => SW κ Sa g ++ (RC ra (Sa 0) f9 h9 a9 b9 p9 o9 ++ [])) (fun k => [(0, .ref (ra)), (1, .int (tI (dpL σ k))), (2, .int (grI σ (dpL σ k))), (3, .int (nI k))]) (fun k => k ≤ σ 1) (fun k => σ 1 - k) (0) (Nat.zero_le _) rfl rfl ?_
  rintro k hI6 ih6
  have hdl := dpL_le σ k
  have hdk : dpL σ k ≠ 0 → σ (5 + 6 * (dpL σ k - 1) + 1) < 2147483648 := fun z => by have := hv.bd (5 + 6 * (dpL σ k - 1) + 1) (by omega) (by omega); omega
  refine z_iload_n C dX5_deepestBlock_6 3 rfl ?_
  refine z_aload_n C dX5_deepestBlock_7 0 rfl ?_
  refine z_get C hin5 13 rfl rfl 0 (by decide) k10 rfl dX5_deepestBlock_8 ?_
  refine zs_get_blockCount C hin4 (x := σ 1) k107 dX5_deepestBlock_11 hr.1.s1 ?_
  refine zn_icmp_ge C 48 dX5_deepestBlock_14 (by decide) (by omega) (by omega) (fun h1 => ?_) (fun h2 => ?_)
  · refine z_iload_n C dX5_deepestBlock_48 1 rfl ?_
    exact z_iret C hr9 hk (()) (congrArg (fun n => some (Value.int (tI n))) (show dpL σ (σ 1) = dpL σ k from by rw [show k = σ 1 from by omega])) (trivial) (List.Perm.of_eq rfl) dX5_deepestBlock_49 (Nat.le_refl _) (Nat.le_refl _)
  · have hb9 := hv.blk (c := k) (by omega)
    refine z_aload_n C dX5_deepestBlock_17 0 rfl ?_
    refine z_get C hin5 13 rfl rfl 0 (by decide) k10 rfl dX5_deepestBlock_18 ?_
    refine zs_get_depth C hin4 k125 dX5_deepestBlock_21 ?_
    refine z_iload_n C dX5_deepestBlock_24 3 rfl ?_
    refine zs_ald_depth C (x := σ (5 + 6 * k + 1)) (by omega) (hr.1.b6 (by omega)) dX5_deepestBlock_25 ?_
    refine z_iload_n C dX5_deepestBlock_26 2 rfl ?_
    refine z_icmp_le C 42 dX5_deepestBlock_27 (by decide) (fun q => ?_) (fun q => ?_)
    · rw [gr_le (by omega) hdk] at q
      have hdp : dpL σ (k + 1) = dpL σ k := by simp only [dpL]; rw [if_neg q.1, if_neg (by omega)]
      refine zn_iinc (n := 1) C [(3, .int (nI (k + 1))), (0, .ref (ra)), (1, .int (tI (dpL σ k))), (2, .int (grI σ (dpL σ k)))] dX5_deepestBlock_42 3 rfl (by decide) rfl ?_
      refine z_eq (lv' := [(3, .int (nI (k + 1))), (0, .ref (ra)), (1, .int (tI (dpL σ (k + 1)))), (2, .int (grI σ (dpL σ (k + 1))))]) ?_ rfl (by rw [hdp]) rfl rfl
      refine z_goto (tgt := 6) C dX5_deepestBlock_45 (by decide) ?_
      refine z_lv [1, 2, 3, 0] rfl ?_
      exact ih6 (k + 1) (by omega) (by omega)
    · rw [gr_le (by omega) hdk] at q
      refine z_iload_n C dX5_deepestBlock_30 3 rfl ?_
      refine z_istore_n C [(1, .int (nI k)), (0, .ref (ra)), (2, .int (grI σ (dpL σ k))), (3, .int (nI k))] dX5_deepestBlock_31 (by decide) rfl ?_
      refine z_aload_n C dX5_deepestBlock_32 1 rfl ?_
      refine z_get C hin5 13 rfl rfl 0 (by decide) k10 rfl dX5_deepestBlock_33 ?_
      refine zs_get_depth C hin4 k125 dX5_deepestBlock_36 ?_
      refine z_iload_n C dX5_deepestBlock_39 3 rfl ?_
      refine zs_ald_depth C (x := σ (5 + 6 * k + 1)) (by omega) (hr.1.b6 (by omega)) dX5_deepestBlock_40 ?_
      refine z_istore_n C [(2, .int (nI (σ (5 + 6 * k + 1)))), (1, .int (nI k)), (0, .ref (ra)), (3, .int (nI k))] dX5_deepestBlock_41 (by decide) rfl ?_
      have hdp : dpL σ (k + 1) = k + 1 := by
        simp only [dpL]
        split
        · rfl
        · rw [if_pos (by rcases Nat.lt_or_ge (σ (5 + 6 * (dpL σ k - 1) + 1)) (σ (5 + 6 * k + 1)) with z | z
                         · exact z
                         · exact absurd ⟨by assumption, z⟩ q)]
      refine zn_iinc (n := 1) C [(3, .int (nI (k + 1))), (2, .int (nI (σ (5 + 6 * k + 1)))), (1, .int (nI k)), (0, .ref (ra))] dX5_deepestBlock_42 3 rfl (by decide) rfl ?_
      refine z_eq (lv' := [(3, .int (nI (k + 1))), (2, .int (grI σ (dpL σ (k + 1)))), (1, .int (tI (dpL σ (k + 1)))), (0, .ref (ra))]) ?_ rfl (by rw [hdp]; rfl) rfl rfl
      refine z_goto (tgt := 6) C dX5_deepestBlock_45 (by decide) ?_
      refine z_lv [3, 2, 1, 0] rfl ?_
      exact ih6 (k + 1) (by omega) (by omega)
theorem hdX5_deepestBlock : yX5_deepestBlock.cls = RX5 ∧ yX5_deepestBlock.cls ≠ "java/lang/invoke/MethodHandle" ∧ yX5_deepestBlock.cls ≠ "java/lang/invoke/VarHandle" ∧ (parseMethodDescriptor yX5_deepestBlock.desc).map (fun d => d.parameters.length) = some 0 := by decide +kernel
set_option maxRecDepth 100000 in
set_option maxHeartbeats 4000000 in
theorem mX5_differentDepths (l : Launch) (D : va_G) (κ : Nat → ClassId) (Sa : Nat → Nat) (g : Nat → Nat → Nat) (ra f9 h9 a9 b9 p9 o9 : Nat) (σ : Nat → Nat) (M : Nat)  (hr : Rep g σ) (hv : Inv M σ) : zM l yX5_differentDepths wsX5_differentDepths { frames := 1, cells := 0, slots := 0, locals := 20 } D (zTy κ) [.ref ra] (SW κ Sa g ++ (RC ra (Sa 0) f9 h9 a9 b9 p9 o9)) (S := Unit) (fun _ => (some (.int (nI (sumL (fun i => (fdL σ i i).toNat) (σ 1)))))) (fun _ => True) (fun _ => SW κ Sa g ++ (RC ra (Sa 0) f9 h9 a9 b9 p9 o9)) 0 0 := by
  refine zM_of (cc := cX5_differentDepths) (maxL := 3) (rt := (some .int)) [(0, .ref (ra))] (by decide +kernel) rfl (Nat.le_of_ble_eq_true rfl) rfl ?_
  intro p e s m args below meth c A C hr9 hk hnm
  have C : zC p s m args c cX5_differentDepths 3 wsX5_differentDepths RX5 D (zTy κ) A := C
  have hin5 : ∀ w ∈ wsX50, w ∈ wsX5_differentDepths := fun w h => List.mem_cons_of_mem _ (List.mem_append_left _ (List.mem_append_right _ h))
  have hin4 : ∀ w ∈ wsX40, w ∈ wsX5_differentDepths := fun w h => List.mem_cons_of_mem _ (List.mem_append_right _ h)
  have k10 : Cond.fieldLink RX5 10 "PeatRailway" "current" "LPeatRailway$State;" ∈ wsX5_differentDepths := by decide +kernel
  have k107 : Cond.fieldLink RX5 107 "PeatRailway$State" "blockCount" "I" ∈ wsX5_differentDepths := by decide +kernel
  have k125 : Cond.fieldLink RX5 125 "PeatRailway$State" "depth" "[I" ∈ wsX5_differentDepths := by decide +kernel
  refine z_eq (ws' := SW κ Sa g ++ (RC ra (Sa 0) f9 h9 a9 b9 p9 o9 ++ [])) ?_ rfl rfl rfl rfl
  have hn1 := hv.n1
  have hn2 := hv.n2
  refine z_iconst (v := nI 0) C dX5_differentDepths_0 (by decide) ?_
  refine z_istore_n C [(1, .int (nI 0)), (0, .ref (ra))] dX5_differentDepths_1 (by decide) rfl ?_
  refine z_iconst (v := nI 0) C dX5_differentDepths_2 (by decide) ?_
  refine z_istore_n C [(2, .int (nI 0)), (1, .int (nI 0)), (0, .ref (ra))] dX5_differentDepths_3 (by decide) rfl ?_
  refine z_lv [2, 1, 0] rfl ?_
  refine z_loop (σ := Nat) (fun k => SW κ Sa g ++ (RC ra (Sa 0) f9 h9 a9 b9 p9 o9 ++ [])) (fun k => [(0, .ref (ra)), (1, .int (nI (mkN σ k))), (2, .int (nI k))]) (fun k => k ≤ σ 1) (fun k => σ 1 - k) (0) (Nat.zero_le _) rfl rfl ?_
  rintro k hI4 ih4
  refine z_iload_n C dX5_differentDepths_4 2 rfl ?_
  refine z_aload_n C dX5_differentDepths_5 0 rfl ?_
  refine z_get C hin5 13 rfl rfl 0 (by decide) k10 rfl dX5_differentDepths_6 ?_
  refine zs_get_blockCount C hin4 (x := σ 1) k107 dX5_differentDepths_9 hr.1.s1 ?_
  refine zn_icmp_ge C 35 dX5_differentDepths_12 (by decide) (by omega) (by omega) (fun h1 => ?_) (fun h2 => ?_)
  · refine z_iload_n C dX5_differentDepths_35 1 rfl ?_
    refine zs_call C (mJ6_bitCount_0f7a4 l D κ (nI (mkN σ k))) gX5_differentDepths_J6_bitCount_0f7a4 rfl rfl rfl hdJ6_bitCount_0f7a4 ⟨Nat.le_of_ble_eq_true rfl, Nat.le_of_ble_eq_true rfl⟩ rfl (Nat.le_of_ble_eq_true rfl) dX5_differentDepths_36 ⟨Nat.zero_le _, Nat.zero_le _⟩ ?_
    rw [bcA_all _ (mkN_ok hv k (by omega)).1, (mkN_ok hv k (by omega)).2.2]
    exact z_iret C hr9 hk (()) (congrArg (fun n => some (Value.int (nI n))) (show sumL (fun i => (fdL σ i i).toNat) (σ 1) = sumL (fun i => (fdL σ i i).toNat) k from by rw [show k = σ 1 from by omega])) (trivial) (List.Perm.of_eq rfl) dX5_differentDepths_39 (Nat.le_refl _) (Nat.le_refl _)
  · have hb9 := hv.blk (c := k) (by omega)
    refine z_iload_n C dX5_differentDepths_15 1 rfl ?_
    refine z_iconst (v := nI 1) C dX5_differentDepths_16 (by decide) ?_
    refine z_aload_n C dX5_differentDepths_17 0 rfl ?_
    refine z_get C hin5 13 rfl rfl 0 (by decide) k10 rfl dX5_differentDepths_18 ?_
    refine zs_get_depth C hin4 k125 dX5_differentDepths_21 ?_
    refine z_iload_n C dX5_differentDepths_24 2 rfl ?_
    refine zs_ald_depth C (x := σ (5 + 6 * k + 1)) (by omega) (hr.1.b6 (by omega)) dX5_differentDepths_25 ?_
    refine z_ishl C dX5_differentDepths_26 ?_
    refine z_ior C dX5_differentDepths_27 ?_
    rw [(orN_all _ (by omega) _ (mkN_ok hv k (by omega)).1).1]
    refine z_istore_n C [(1, .int (nI (mkN σ (k + 1)))), (0, .ref (ra)), (2, .int (nI k))] dX5_differentDepths_28 (by decide) rfl ?_
    refine zn_iinc (n := 1) C [(2, .int (nI (k + 1))), (1, .int (nI (mkN σ (k + 1)))), (0, .ref (ra))] dX5_differentDepths_29 2 rfl (by decide) rfl ?_
    refine z_goto (tgt := 4) C dX5_differentDepths_32 (by decide) ?_
    refine z_lv [2, 1, 0] rfl ?_
    exact ih4 (k + 1) (by omega) (by omega)
theorem hdX5_differentDepths : yX5_differentDepths.cls = RX5 ∧ yX5_differentDepths.cls ≠ "java/lang/invoke/MethodHandle" ∧ yX5_differentDepths.cls ≠ "java/lang/invoke/VarHandle" ∧ (parseMethodDescriptor yX5_differentDepths.desc).map (fun d => d.parameters.length) = some 0 := by decide +kernel
end X2R
end X2
