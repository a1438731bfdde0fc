section Q1
def kBf (x : Int32) : Nat := if isLt x = true then 1 else if isDg x = true then 2 else if x = nI 59 then 3 else 4
/-- the class's kind of the next token -/
def tkC (ip : Nat → Int32) (n k p : Nat) : Nat := if tkF ip n p = n then 0 else if tkG ip n k p = true ∧ kBf (ip (tkF ip n p)) ≠ 3 then 4 else kBf (ip (tkF ip n p))
def rdV (tx : Nat → Int32) (v : Nat → Nat) : Nat → Nat := upN (upN (upN (upN v 9 (v 7)) 7 (tkF tx (v 5) (v 8))) 8 (tkT tx (v 5) (v 8))) 6 (tkC tx (v 5) (v 6) (v 8))
set_option maxRecDepth 100000 in
set_option maxHeartbeats 4000000 in
theorem mX2_hasRoom (l : Launch) (D : va_G) (κ : Nat → ClassId) (Pa Sa : Nat → Nat) (eo : Int32) (v : Nat → Nat) (tx : Nat → Int32) (x : Nat) (h1 : v 1 ≤ 600) (hx : x ≤ 600) : pM l yX2_hasRoom wsX2_hasRoom { frames := 0, cells := 0, slots := 0, locals := 0 } D κ Pa Sa [.int (nI x)] eo v tx (some (.int (nI (decide (v 1 + x ≤ 600)).toNat))) eo v tx := by
  refine zM_of (cc := cX2_hasRoom) (maxL := 2) (rt := (some .boolean)) [(0, .ref (Pa 0)), (1, .int (nI x))] (by decide +kernel) rfl (Nat.le_of_ble_eq_true rfl) rfl ?_
  intro p e s m args below meth c A C hr9 hk hnm
  have C : zC p s m args c cX2_hasRoom 2 wsX2_hasRoom RX2 D (zTy κ) A := C
  have hin2 : ∀ w ∈ wsX20, w ∈ wsX2_hasRoom := fun w h => List.mem_cons_of_mem _ (List.mem_append_right _ h)
  have k26 : Cond.fieldLink RX2 26 "PeatRailway$Parser" "filled" "I" ∈ wsX2_hasRoom := by decide +kernel
  refine z_eq (ws' := PW κ Pa Sa eo v tx ++ []) ?_ rfl rfl rfl rfl
  refine z_aload_n C dX2_hasRoom_0 0 rfl ?_
  refine zp_get_filled C hin2 (x := v 1) k26 dX2_hasRoom_1 rfl ?_
  refine z_iload_n C dX2_hasRoom_4 1 rfl ?_
  refine zn_iadd C dX2_hasRoom_5 ?_
  refine z_sipush (v := nI 600) C dX2_hasRoom_6 (by decide) ?_
  refine zn_icmp_gt C 16 dX2_hasRoom_9 (by decide) (by omega) (by omega) (fun h1 => ?_) (fun h2 => ?_)
  · refine z_iconst (v := nI 0) C dX2_hasRoom_16 (by decide) ?_
    exact z_zret C hr9 hk (by decide) (()) (congrArg (fun b : Bool => some (Value.int (nI b.toNat))) (show (decide (v 1 + x ≤ 600)) = false from by rw [decide_eq_false (by omega)])) (trivial) (List.Perm.of_eq rfl) dX2_hasRoom_17 (Nat.le_refl _) (Nat.le_refl _)
  · refine z_iconst (v := nI 1) C dX2_hasRoom_12 (by decide) ?_
    refine z_goto (tgt := 17) C dX2_hasRoom_13 (by decide) ?_
    exact z_zret C hr9 hk (by decide) (()) (congrArg (fun b : Bool => some (Value.int (nI b.toNat))) (show (decide (v 1 + x ≤ 600)) = true from by rw [decide_eq_true (by omega)])) (trivial) (List.Perm.of_eq rfl) dX2_hasRoom_17 (Nat.le_refl _) (Nat.le_refl _)
theorem hdX2_hasRoom : yX2_hasRoom.cls = RX2 ∧ yX2_hasRoom.cls ≠ "java/lang/invoke/MethodHandle" ∧ yX2_hasRoom.cls ≠ "java/lang/invoke/VarHandle" ∧ (parseMethodDescriptor yX2_hasRoom.desc).map (fun d => d.parameters.length) = some 1 := by decide +kernel
set_option maxRecDepth 100000 in
set_option maxHeartbeats 4000000 in
theorem mX2_fail (l : Launch) (D : va_G) (κ : Nat → ClassId) (Pa Sa : Nat → Nat) (eo : Int32) (v : Nat → Nat) (tx : Nat → Int32) (k : Nat) (o : Nat)  : pM l yX2_fail wsX2_fail { frames := 0, cells := 0, slots := 0, locals := 0 } D κ Pa Sa [.int (nI k), .int (nI o)] eo v tx (some (.int (nI 0))) (nI o) (upN v 2 k) tx := by
  refine zM_of (cc := cX2_fail) (maxL := 3) (rt := (some .boolean)) [(0, .ref (Pa 0)), (1, .int (nI k)), (2, .int (nI o))] (by decide +kernel) rfl (Nat.le_of_ble_eq_true rfl) rfl ?_
  intro p e s m args below meth c A C hr9 hk hnm
  have C : zC p s m args c cX2_fail 3 wsX2_fail RX2 D (zTy κ) A := C
  have hin2 : ∀ w ∈ wsX20, w ∈ wsX2_fail := fun w h => List.mem_cons_of_mem _ (List.mem_append_right _ h)
  have k52 : Cond.fieldLink RX2 52 "PeatRailway$Parser" "errorKind" "I" ∈ wsX2_fail := by decide +kernel
  have k15 : Cond.fieldLink RX2 15 "PeatRailway$Parser" "errorOffset" "I" ∈ wsX2_fail := by decide +kernel
  refine z_eq (ws' := PW κ Pa Sa eo v tx ++ []) ?_ rfl rfl rfl rfl
  refine z_aload_n C dX2_fail_0 0 rfl ?_
  refine z_iload_n C dX2_fail_1 1 rfl ?_
  refine zp_put_errorKind C hin2 k52 dX2_fail_2 ?_
  refine z_aload_n C dX2_fail_5 0 rfl ?_
  refine z_iload_n C dX2_fail_6 2 rfl ?_
  refine zp_put_errorOffset C hin2 k15 dX2_fail_7 ?_
  refine z_iconst (v := nI 0) C dX2_fail_10 (by decide) ?_
  exact z_zret C hr9 hk (by decide) (()) (rfl) (trivial) (List.Perm.of_eq rfl) dX2_fail_11 (Nat.le_refl _) (Nat.le_refl _)
theorem hdX2_fail : yX2_fail.cls = RX2 ∧ yX2_fail.cls ≠ "java/lang/invoke/MethodHandle" ∧ yX2_fail.cls ≠ "java/lang/invoke/VarHandle" ∧ (parseMethodDescriptor yX2_fail.desc).map (fun d => d.parameters.length) = some 2 := by decide +kernel
set_option maxRecDepth 100000 in
set_option maxHeartbeats 4000000 in
theorem mX2_endOfRun (l : Launch) (D : va_G) (κ : Nat → ClassId) (Pa Sa : Nat → Nat) (eo : Int32) (v : Nat → Nat) (tx : Nat → Int32) (lo hi : Nat) (h7 : v 7 ≤ v 5) (h5 : v 5 ≤ 600) : pM l yX2_endOfRun wsX2_endOfRun { frames := 0, cells := 0, slots := 0, locals := 0 } D κ Pa Sa [.int (nI lo), .int (nI hi)] eo v tx (some (.int (nI (scn (fun x => inI x (nI lo) (nI hi)) tx (v 5 - v 7) (v 7))))) eo v tx := by
  refine zM_of (cc := cX2_endOfRun) (maxL := 4) (rt := (some .int)) [(0, .ref (Pa 0)), (1, .int (nI lo)), (2, .int (nI hi))] (by decide +kernel) rfl (Nat.le_of_ble_eq_true rfl) rfl ?_
  intro p e s m args below meth c A C hr9 hk hnm
  have C : zC p s m args c cX2_endOfRun 4 wsX2_endOfRun RX2 D (zTy κ) A := C
  have hin2 : ∀ w ∈ wsX20, w ∈ wsX2_endOfRun := fun w h => List.mem_cons_of_mem _ (List.mem_append_right _ h)
  have k61 : Cond.fieldLink RX2 61 "PeatRailway$Parser" "tokenStart" "I" ∈ wsX2_endOfRun := by decide +kernel
  have k49 : Cond.fieldLink RX2 49 "PeatRailway$Parser" "limit" "I" ∈ wsX2_endOfRun := by decide +kernel
  have k11 : Cond.fieldLink RX2 11 "PeatRailway$Parser" "text" "[B" ∈ wsX2_endOfRun := by decide +kernel
  refine z_eq (ws' := PW κ Pa Sa eo v tx ++ []) ?_ rfl rfl rfl rfl
  refine z_aload_n C dX2_endOfRun_0 0 rfl ?_
  refine zp_get_tokenStart C hin2 (x := v 7) k61 dX2_endOfRun_1 rfl ?_
  refine z_istore_n C [(3, .int (nI (v 7))), (0, .ref (Pa 0)), (1, .int (nI lo)), (2, .int (nI hi))] dX2_endOfRun_4 (by decide) rfl ?_
  refine z_lv [1, 2, 3, 0] rfl ?_
  refine z_loop (σ := Nat) (fun q => PW κ Pa Sa eo v tx ++ []) (fun q => [(0, .ref (Pa 0)), (1, .int (nI lo)), (2, .int (nI hi)), (3, .int (nI q))]) (fun q => v 7 ≤ q ∧ q ≤ v 5 ∧ scn (fun x => inI x (nI lo) (nI hi)) tx (v 5 - q) q = scn (fun x => inI x (nI lo) (nI hi)) tx (v 5 - v 7) (v 7)) (fun q => v 5 - q) (v 7) (⟨Nat.le_refl _, h7, rfl⟩) rfl rfl ?_
  rintro q hI5 ih5
  obtain ⟨hi1, hi2, hi3⟩ := hI5
  refine z_iload_n C dX2_endOfRun_5 3 rfl ?_
  refine z_aload_n C dX2_endOfRun_6 0 rfl ?_
  refine zp_get_limit C hin2 (x := v 5) k49 dX2_endOfRun_7 rfl ?_
  refine zn_icmp_ge C 39 dX2_endOfRun_10 (by decide) (by omega) (by omega) (fun h1 => ?_) (fun h2 => ?_)
  · refine z_iload_n C dX2_endOfRun_39 3 rfl ?_
    exact z_iret C hr9 hk (()) (congrArg (fun n => some (Value.int (nI n))) (show scn (fun x => inI x (nI lo) (nI hi)) tx (v 5 - v 7) (v 7) = q from by rw [← hi3]; exact scn_no (Or.inl (by omega)))) (trivial) (List.Perm.of_eq rfl) dX2_endOfRun_40 (Nat.le_refl _) (Nat.le_refl _)
  · refine z_aload_n C dX2_endOfRun_13 0 rfl ?_
    refine zp_get_text C hin2 k11 dX2_endOfRun_14 ?_
    refine z_iload_n C dX2_endOfRun_17 3 rfl ?_
    refine zp_ald C (by omega) dX2_endOfRun_18 ?_
    refine z_iload_n C dX2_endOfRun_19 1 rfl ?_
    refine z_icmp_lt C 39 dX2_endOfRun_20 (by decide) (fun h3 => ?_) (fun h4 => ?_)
    · refine z_iload_n C dX2_endOfRun_39 3 rfl ?_
      exact z_iret C hr9 hk (()) (congrArg (fun n => some (Value.int (nI n))) (show scn (fun x => inI x (nI lo) (nI hi)) tx (v 5 - v 7) (v 7) = q from by rw [← hi3]; exact scn_no (Or.inr (inI_lo _ h3)))) (trivial) (List.Perm.of_eq rfl) dX2_endOfRun_40 (Nat.le_refl _) (Nat.le_refl _)
    · refine z_aload_n C dX2_endOfRun_23 0 rfl ?_
      refine zp_get_text C hin2 k11 dX2_endOfRun_24 ?_
      refine z_iload_n C dX2_endOfRun_27 3 rfl ?_
      refine zp_ald C (by omega) dX2_endOfRun_28 ?_
      refine z_iload_n C dX2_endOfRun_29 2 rfl ?_
      refine z_icmp_gt C 39 dX2_endOfRun_30 (by decide) (fun h5 => ?_) (fun h6 => ?_)
      · refine z_iload_n C dX2_endOfRun_39 3 rfl ?_
        exact z_iret C hr9 hk (()) (congrArg (fun n => some (Value.int (nI n))) (show scn (fun x => inI x (nI lo) (nI hi)) tx (v 5 - v 7) (v 7) = q from by rw [← hi3]; exact scn_no (Or.inr (inI_hi _ h5)))) (trivial) (List.Perm.of_eq rfl) dX2_endOfRun_40 (Nat.le_refl _) (Nat.le_refl _)
      · refine zn_iinc (n := 1) C [(3, .int (nI (q + 1))), (0, .ref (Pa 0)), (1, .int (nI lo)), (2, .int (nI hi))] dX2_endOfRun_33 3 rfl (by decide) rfl ?_
        refine z_goto (tgt := 5) C dX2_endOfRun_36 (by decide) ?_
        refine z_lv [1, 2, 3, 0] rfl ?_
        exact ih5 (q + 1) ⟨by omega, by omega, by rw [← scn_go (P := fun x => inI x (nI lo) (nI hi)) (by omega) (inI_n _ h4 h6)]; exact hi3⟩ (by omega)
theorem hdX2_endOfRun : yX2_endOfRun.cls = RX2 ∧ yX2_endOfRun.cls ≠ "java/lang/invoke/MethodHandle" ∧ yX2_endOfRun.cls ≠ "java/lang/invoke/VarHandle" ∧ (parseMethodDescriptor yX2_endOfRun.desc).map (fun d => d.parameters.length) = some 2 := by decide +kernel
theorem kBf_le (x : Int32) : kBf x ≤ 4 := by
  simp only [kBf]
  split
  · omega
  split
  · omega
  split <;> omega
theorem sp_1 {x : Int32} (h : x = nI 32) : isSp x = true := by simp only [isSp]; rw [decide_eq_true h]; rfl
theorem sp_2 {x : Int32} (h : x = nI 10) : isSp x = true := by simp only [isSp]; rw [decide_eq_true h, Bool.or_true]
theorem sp_no {x : Int32} (h1 : ¬ x = nI 32) (h2 : ¬ x = nI 10) : isSp x = false := by simp only [isSp]; rw [decide_eq_false h1, decide_eq_false h2]; rfl
theorem tkG_f1 {ip : Nat → Int32} {n k p x : Nat} (hx : x = (decide (k = 1) || decide (k = 2)).toNat) (h : x = 0) : ¬ tkG ip n k p = true := by
  simp only [tkG]
  cases hb : (decide (k = 1) || decide (k = 2)) with
  | false => exact fun q => by cases q
  | true =>
    rw [hb] at hx
    exact absurd (hx.symm.trans h) (by decide)
theorem tkG_f2 {ip : Nat → Int32} {n k p q : Nat} (hq : q = tkF ip n p) (h : q ≠ p) : ¬ tkG ip n k p = true := by
  simp only [tkG]
  rw [← hq, decide_eq_false h, Bool.and_false]
  exact fun q => by cases q
theorem tkG_t {ip : Nat → Int32} {n k p x q : Nat} (hx : x = (decide (k = 1) || decide (k = 2)).toNat) (h : 0 < x) (hq : q = tkF ip n p) (h2 : q = p) : tkG ip n k p = true := by
  simp only [tkG]
  rw [← hq, decide_eq_true h2, Bool.and_true]
  cases hb : (decide (k = 1) || decide (k = 2)) with
  | true => rfl
  | false =>
    rw [hb] at hx
    exact absurd h (by rw [hx]; decide)
set_option maxRecDepth 100000 in
set_option maxHeartbeats 4000000 in
theorem mX2_readToken (l : Launch) (D : va_G) (κ : Nat → ClassId) (Pa Sa : Nat → Nat) (eo : Int32) (v : Nat → Nat) (tx : Nat → Int32)  (h5 : v 5 ≤ 600) (h8 : v 8 ≤ v 5) (h6 : v 6 ≤ 4) (h7 : v 7 ≤ 600) : pM l yX2_readToken wsX2_readToken { frames := 1, cells := 0, slots := 0, locals := 23 } D κ Pa Sa [] eo v tx none eo (rdV tx v) tx := by
  refine zM_of (cc := cX2_readToken) (maxL := 4) (rt := none) [(0, .ref (Pa 0))] (by decide +kernel) rfl (Nat.le_of_ble_eq_true rfl) rfl ?_
  intro p e s m args below meth c A C hr9 hk hnm
  have C : zC p s m args c cX2_readToken 4 wsX2_readToken RX2 D (zTy κ) A := C
  have hin2 : ∀ w ∈ wsX20, w ∈ wsX2_readToken := fun w h => List.mem_cons_of_mem _ (List.mem_append_right _ h)
  have k58 : Cond.fieldLink RX2 58 "PeatRailway$Parser" "token" "I" ∈ wsX2_readToken := by decide +kernel
  have k64 : Cond.fieldLink RX2 64 "PeatRailway$Parser" "tokenEnd" "I" ∈ wsX2_readToken := by decide +kernel
  have k61 : Cond.fieldLink RX2 61 "PeatRailway$Parser" "tokenStart" "I" ∈ wsX2_readToken := by decide +kernel
  have k125 : Cond.fieldLink RX2 125 "PeatRailway$Parser" "takenStart" "I" ∈ wsX2_readToken := by decide +kernel
  have k49 : Cond.fieldLink RX2 49 "PeatRailway$Parser" "limit" "I" ∈ wsX2_readToken := by decide +kernel
  have k11 : Cond.fieldLink RX2 11 "PeatRailway$Parser" "text" "[B" ∈ wsX2_readToken := by decide +kernel
  refine z_eq (ws' := PW κ Pa Sa eo v tx ++ []) ?_ rfl rfl rfl rfl
  refine z_aload_n C dX2_readToken_0 0 rfl ?_
  refine z_cut (α := Nat) (fun x => x = (decide (v 6 = 1) || decide (v 6 = 2)).toNat) (fun x => PW κ Pa Sa eo v tx ++ []) (fun x => [(0, .ref (Pa 0))]) (fun x => [.int (nI x)]) 21 (fun x hx21 => ?_) (fun cut21 => ?_)
  · have hx9 : x < 2 := by rw [hx21]; exact nI_b2 _
    refine z_istore_n C [(1, .int (nI x)), (0, .ref (Pa 0))] dX2_readToken_21 (by decide) rfl ?_
    refine z_aload_n C dX2_readToken_22 1 rfl ?_
    refine zp_get_tokenEnd C hin2 (x := v 8) k64 dX2_readToken_23 rfl ?_
    refine z_istore_n C [(2, .int (nI (v 8))), (1, .int (nI x)), (0, .ref (Pa 0))] dX2_readToken_26 (by decide) rfl ?_
    refine z_aload_n C dX2_readToken_27 2 rfl ?_
    refine z_aload_n C dX2_readToken_28 2 rfl ?_
    refine zp_get_tokenStart C hin2 (x := v 7) k61 dX2_readToken_29 rfl ?_
    refine zp_put_takenStart C hin2 k125 dX2_readToken_32 ?_
    refine z_aload_n C dX2_readToken_35 2 rfl ?_
    refine z_iload_n C dX2_readToken_36 0 rfl ?_
    refine zp_put_tokenStart C hin2 k61 dX2_readToken_37 ?_
    refine z_lv [2, 1, 0] rfl ?_
    refine z_loop (σ := Nat) (fun q => PW κ Pa Sa eo (upN (upN v 9 (v 7)) 7 q) tx ++ []) (fun q => [(0, .ref (Pa 0)), (1, .int (nI x)), (2, .int (nI (v 8)))]) (fun q => v 8 ≤ q ∧ q ≤ v 5 ∧ scn isSp tx (v 5 - q) q = scn isSp tx (v 5 - v 8) (v 8)) (fun q => v 5 - q) (v 8) (⟨Nat.le_refl _, h8, rfl⟩) rfl rfl ?_
    rintro q hI40 ih40
    obtain ⟨hi1, hi2, hi3⟩ := hI40
    refine z_aload_n C dX2_readToken_40 0 rfl ?_
    refine z_cut (α := Unit) (fun _z => q = tkF tx (v 5) (v 8)) (fun _z => PW κ Pa Sa eo (upN (upN v 9 (v 7)) 7 q) tx ++ []) (fun _z => [(0, .ref (Pa 0)), (1, .int (nI x)), (2, .int (nI (v 8)))]) (fun _z => []) 92 (fun _z hx92 => ?_) (fun cut92 => ?_)
    · have hF7 : q ≤ v 5 := by omega
      refine z_aload_n C dX2_readToken_92 0 rfl ?_
      refine z_aload_n C dX2_readToken_93 0 rfl ?_
      refine zp_get_tokenStart C hin2 (x := q) k61 dX2_readToken_94 rfl ?_
      refine zp_put_tokenEnd C hin2 k64 dX2_readToken_97 ?_
      refine z_aload_n C dX2_readToken_100 0 rfl ?_
      refine zp_get_tokenStart C hin2 (x := q) k61 dX2_readToken_101 rfl ?_
      refine z_aload_n C dX2_readToken_104 0 rfl ?_
      refine zp_get_limit C hin2 (x := v 5) k49 dX2_readToken_105 rfl ?_
      refine zn_icmp_lt C 117 dX2_readToken_108 (by decide) (by omega) (by omega) (fun h1 => ?_) (fun h2 => ?_)
      · have hq9 : ¬ q = v 5 := by omega
        refine z_cut (α := Nat × Nat) (fun y => y.1 = kBf (tx q) ∧ y.2 = tkT tx (v 5) (v 8)) (fun y => PW κ Pa Sa eo (upN (upN (upN (upN v 9 (v 7)) 7 q) 8 y.2) 6 y.1) tx ++ []) (fun y => [(0, .ref (Pa 0)), (1, .int (nI x)), (2, .int (nI (v 8)))]) (fun y => []) 216 (fun y hx216 => ?_) (fun cut216 => ?_)
        · obtain ⟨hk0, he0⟩ := hx216
          have hk1 := kBf_le (tx q)
          refine z_iload_n C dX2_readToken_216 1 rfl ?_
          refine zn_if_eq C 241 dX2_readToken_217 (by decide) (by omega) (fun h3 => ?_) (fun h4 => ?_)
          · exact z_vret C hr9 hk (()) (rfl) (trivial) (List.Perm.of_eq (show PW κ Pa Sa eo (upN (upN (upN (upN v 9 (v 7)) 7 q) 8 y.2) 6 y.1) tx ++ [] = PW κ Pa Sa eo (rdV tx v) tx from by simp only [rdV, ← hx92, show tkC tx (v 5) (v 6) (v 8) = y.1 from by simp only [tkC, ← hx92]; rw [if_neg hq9, ← hk0, if_neg (fun z => tkG_f1 hx21 h3 z.1)], ← he0]; rfl)) dX2_readToken_241 (Nat.le_refl _) (Nat.le_refl _)
          · refine z_aload_n C dX2_readToken_220 0 rfl ?_
            refine zp_get_tokenStart C hin2 (x := q) k61 dX2_readToken_221 rfl ?_
            refine z_iload_n C dX2_readToken_224 2 rfl ?_
            refine zn_icmp_ne C 241 dX2_readToken_225 (by decide) (by omega) (by omega) (fun h5 => ?_) (fun h6 => ?_)
            · exact z_vret C hr9 hk (()) (rfl) (trivial) (List.Perm.of_eq (show PW κ Pa Sa eo (upN (upN (upN (upN v 9 (v 7)) 7 q) 8 y.2) 6 y.1) tx ++ [] = PW κ Pa Sa eo (rdV tx v) tx from by simp only [rdV, ← hx92, show tkC tx (v 5) (v 6) (v 8) = y.1 from by simp only [tkC, ← hx92]; rw [if_neg hq9, ← hk0, if_neg (fun z => tkG_f2 hx92 h5 z.1)], ← he0]; rfl)) dX2_readToken_241 (Nat.le_refl _) (Nat.le_refl _)
            · refine z_aload_n C dX2_readToken_228 0 rfl ?_
              refine zp_get_token C hin2 (x := y.1) k58 dX2_readToken_229 rfl ?_
              refine z_iconst (v := nI 3) C dX2_readToken_232 (by decide) ?_
              refine zn_icmp_eq C 241 dX2_readToken_233 (by decide) (by omega) (by omega) (fun h7 => ?_) (fun h8 => ?_)
              · exact z_vret C hr9 hk (()) (rfl) (trivial) (List.Perm.of_eq (show PW κ Pa Sa eo (upN (upN (upN (upN v 9 (v 7)) 7 q) 8 y.2) 6 y.1) tx ++ [] = PW κ Pa Sa eo (rdV tx v) tx from by simp only [rdV, ← hx92, show tkC tx (v 5) (v 6) (v 8) = y.1 from by simp only [tkC, ← hx92]; rw [if_neg hq9, ← hk0, if_neg (fun z => z.2 h7)], ← he0]; rfl)) dX2_readToken_241 (Nat.le_refl _) (Nat.le_refl _)
              · refine z_aload_n C dX2_readToken_236 0 rfl ?_
                refine z_iconst (v := nI 4) C dX2_readToken_237 (by decide) ?_
                refine zp_put_token C hin2 k58 dX2_readToken_238 ?_
                exact z_vret C hr9 hk (()) (rfl) (trivial) (List.Perm.of_eq (show PW κ Pa Sa eo (upN (upN (upN (upN (upN v 9 (v 7)) 7 q) 8 y.2) 6 y.1) 6 4) tx ++ [] = PW κ Pa Sa eo (rdV tx v) tx from by simp only [rdV, ← hx92, show tkC tx (v 5) (v 6) (v 8) = 4 from by simp only [tkC, ← hx92]; rw [if_neg hq9, ← hk0, if_pos ⟨tkG_t hx21 h4 hx92 h6, h8⟩], ← he0]; rfl)) dX2_readToken_241 (Nat.le_refl _) (Nat.le_refl _)
        refine z_aload_n C dX2_readToken_117 0 rfl ?_
        refine zp_get_text C hin2 k11 dX2_readToken_118 ?_
        refine z_aload_n C dX2_readToken_121 0 rfl ?_
        refine zp_get_tokenStart C hin2 (x := q) k61 dX2_readToken_122 rfl ?_
        refine zp_ald C (by omega) dX2_readToken_125 ?_
        refine z_istore_n C [(3, .int (tx q)), (0, .ref (Pa 0)), (1, .int (nI x)), (2, .int (nI (v 8)))] dX2_readToken_126 (by decide) rfl ?_
        refine z_iload_n C dX2_readToken_127 0 rfl ?_
        refine z_bipush (v := nI 97) C dX2_readToken_128 (by decide) ?_
        refine z_icmp_lt C 159 dX2_readToken_130 (by decide) (fun h9 => ?_) (fun h10 => ?_)
        · refine z_iload_n C dX2_readToken_159 0 rfl ?_
          refine z_bipush (v := nI 48) C dX2_readToken_160 (by decide) ?_
          refine z_icmp_lt C 191 dX2_readToken_162 (by decide) (fun h11 => ?_) (fun h12 => ?_)
          · refine z_aload_n C dX2_readToken_191 1 rfl ?_
            refine z_iload_n C dX2_readToken_192 0 rfl ?_
            refine z_bipush (v := nI 59) C dX2_readToken_193 (by decide) ?_
            refine z_icmp_ne C 202 dX2_readToken_195 (by decide) (fun h13 => ?_) (fun h14 => ?_)
            · refine z_iconst (v := nI 4) C dX2_readToken_202 (by decide) ?_
              refine zp_put_token C hin2 k58 dX2_readToken_203 ?_
              refine z_aload_n C dX2_readToken_206 1 rfl ?_
              refine z_aload_n C dX2_readToken_207 1 rfl ?_
              refine zp_get_tokenStart C hin2 (x := q) k61 dX2_readToken_208 rfl ?_
              refine z_iconst (v := nI 1) C dX2_readToken_211 (by decide) ?_
              refine zn_iadd C dX2_readToken_212 ?_
              refine zp_put_tokenEnd C hin2 k64 dX2_readToken_213 ?_
              refine z_lv [1, 2, 3] rfl ?_
              exact cut216 (4, q + 1) ⟨by dsimp only [kBf]; rw [show isLt (tx q) = false from inI_lo _ h9, show isDg (tx q) = false from inI_lo _ h11, if_neg h13]; rfl, by dsimp only [tkT]; rw [← hx92, if_neg hq9, show isLt (tx q) = false from inI_lo _ h9, show isDg (tx q) = false from inI_lo _ h11]; rfl⟩
            · refine z_iconst (v := nI 3) C dX2_readToken_198 (by decide) ?_
              refine z_goto (tgt := 203) C dX2_readToken_199 (by decide) ?_
              refine zp_put_token C hin2 k58 dX2_readToken_203 ?_
              refine z_aload_n C dX2_readToken_206 1 rfl ?_
              refine z_aload_n C dX2_readToken_207 1 rfl ?_
              refine zp_get_tokenStart C hin2 (x := q) k61 dX2_readToken_208 rfl ?_
              refine z_iconst (v := nI 1) C dX2_readToken_211 (by decide) ?_
              refine zn_iadd C dX2_readToken_212 ?_
              refine zp_put_tokenEnd C hin2 k64 dX2_readToken_213 ?_
              refine z_lv [1, 2, 3] rfl ?_
              exact cut216 (3, q + 1) ⟨by dsimp only [kBf]; rw [show isLt (tx q) = false from inI_lo _ h9, show isDg (tx q) = false from inI_lo _ h11, if_pos h14]; rfl, by dsimp only [tkT]; rw [← hx92, if_neg hq9, show isLt (tx q) = false from inI_lo _ h9, show isDg (tx q) = false from inI_lo _ h11]; rfl⟩
          · refine z_iload_n C dX2_readToken_165 0 rfl ?_
            refine z_bipush (v := nI 57) C dX2_readToken_166 (by decide) ?_
            refine z_icmp_gt C 191 dX2_readToken_168 (by decide) (fun h15 => ?_) (fun h16 => ?_)
            · refine z_aload_n C dX2_readToken_191 1 rfl ?_
              refine z_iload_n C dX2_readToken_192 0 rfl ?_
              refine z_bipush (v := nI 59) C dX2_readToken_193 (by decide) ?_
              refine z_icmp_ne C 202 dX2_readToken_195 (by decide) (fun h17 => ?_) (fun h18 => ?_)
              · refine z_iconst (v := nI 4) C dX2_readToken_202 (by decide) ?_
                refine zp_put_token C hin2 k58 dX2_readToken_203 ?_
                refine z_aload_n C dX2_readToken_206 1 rfl ?_
                refine z_aload_n C dX2_readToken_207 1 rfl ?_
                refine zp_get_tokenStart C hin2 (x := q) k61 dX2_readToken_208 rfl ?_
                refine z_iconst (v := nI 1) C dX2_readToken_211 (by decide) ?_
                refine zn_iadd C dX2_readToken_212 ?_
                refine zp_put_tokenEnd C hin2 k64 dX2_readToken_213 ?_
                refine z_lv [1, 2, 3] rfl ?_
                exact cut216 (4, q + 1) ⟨by dsimp only [kBf]; rw [show isLt (tx q) = false from inI_lo _ h9, show isDg (tx q) = false from inI_hi _ h15, if_neg h17]; rfl, by dsimp only [tkT]; rw [← hx92, if_neg hq9, show isLt (tx q) = false from inI_lo _ h9, show isDg (tx q) = false from inI_hi _ h15]; rfl⟩
              · refine z_iconst (v := nI 3) C dX2_readToken_198 (by decide) ?_
                refine z_goto (tgt := 203) C dX2_readToken_199 (by decide) ?_
                refine zp_put_token C hin2 k58 dX2_readToken_203 ?_
                refine z_aload_n C dX2_readToken_206 1 rfl ?_
                refine z_aload_n C dX2_readToken_207 1 rfl ?_
                refine zp_get_tokenStart C hin2 (x := q) k61 dX2_readToken_208 rfl ?_
                refine z_iconst (v := nI 1) C dX2_readToken_211 (by decide) ?_
                refine zn_iadd C dX2_readToken_212 ?_
                refine zp_put_tokenEnd C hin2 k64 dX2_readToken_213 ?_
                refine z_lv [1, 2, 3] rfl ?_
                exact cut216 (3, q + 1) ⟨by dsimp only [kBf]; rw [show isLt (tx q) = false from inI_lo _ h9, show isDg (tx q) = false from inI_hi _ h15, if_pos h18]; rfl, by dsimp only [tkT]; rw [← hx92, if_neg hq9, show isLt (tx q) = false from inI_lo _ h9, show isDg (tx q) = false from inI_hi _ h15]; rfl⟩
            · refine z_aload_n C dX2_readToken_171 1 rfl ?_
              refine z_iconst (v := nI 2) C dX2_readToken_172 (by decide) ?_
              refine zp_put_token C hin2 k58 dX2_readToken_173 ?_
              refine z_aload_n C dX2_readToken_176 1 rfl ?_
              refine z_aload_n C dX2_readToken_177 1 rfl ?_
              refine z_bipush (v := nI 48) C dX2_readToken_178 (by decide) ?_
              refine z_bipush (v := nI 57) C dX2_readToken_180 (by decide) ?_
              refine zp_call C (mX2_endOfRun l D κ Pa Sa _ _ _ 48 57 hF7 h5) gX2_readToken_X2_endOfRun rfl rfl rfl hdX2_endOfRun ⟨Nat.le_of_ble_eq_true rfl, Nat.le_of_ble_eq_true rfl⟩ rfl (Nat.le_of_ble_eq_true rfl) dX2_readToken_182 ⟨Nat.zero_le _, Nat.zero_le _⟩ ?_
              refine zp_put_tokenEnd C hin2 k64 dX2_readToken_185 ?_
              refine z_goto (tgt := 216) C dX2_readToken_188 (by decide) ?_
              refine z_lv [1, 2, 3] rfl ?_
              exact cut216 (2, scn isDg tx (v 5 - q) q) ⟨by dsimp only [kBf]; rw [show isLt (tx q) = false from inI_lo _ h9, show isDg (tx q) = true from inI_n _ h12 h16]; rfl, by dsimp only [tkT]; rw [← hx92, if_neg hq9, show isLt (tx q) = false from inI_lo _ h9, show isDg (tx q) = true from inI_n _ h12 h16]; rfl⟩
        · refine z_iload_n C dX2_readToken_133 0 rfl ?_
          refine z_bipush (v := nI 122) C dX2_readToken_134 (by decide) ?_
          refine z_icmp_gt C 159 dX2_readToken_136 (by decide) (fun h19 => ?_) (fun h20 => ?_)
          · refine z_iload_n C dX2_readToken_159 0 rfl ?_
            refine z_bipush (v := nI 48) C dX2_readToken_160 (by decide) ?_
            refine z_icmp_lt C 191 dX2_readToken_162 (by decide) (fun h21 => ?_) (fun h22 => ?_)
            · refine z_aload_n C dX2_readToken_191 1 rfl ?_
              refine z_iload_n C dX2_readToken_192 0 rfl ?_
              refine z_bipush (v := nI 59) C dX2_readToken_193 (by decide) ?_
              refine z_icmp_ne C 202 dX2_readToken_195 (by decide) (fun h23 => ?_) (fun h24 => ?_)
              · refine z_iconst (v := nI 4) C dX2_readToken_202 (by decide) ?_
                refine zp_put_token C hin2 k58 dX2_readToken_203 ?_
                refine z_aload_n C dX2_readToken_206 1 rfl ?_
                refine z_aload_n C dX2_readToken_207 1 rfl ?_
                refine zp_get_tokenStart C hin2 (x := q) k61 dX2_readToken_208 rfl ?_
                refine z_iconst (v := nI 1) C dX2_readToken_211 (by decide) ?_
                refine zn_iadd C dX2_readToken_212 ?_
                refine zp_put_tokenEnd C hin2 k64 dX2_readToken_213 ?_
                refine z_lv [1, 2, 3] rfl ?_
                exact cut216 (4, q + 1) ⟨by dsimp only [kBf]; rw [show isLt (tx q) = false from inI_hi _ h19, show isDg (tx q) = false from inI_lo _ h21, if_neg h23]; rfl, by dsimp only [tkT]; rw [← hx92, if_neg hq9, show isLt (tx q) = false from inI_hi _ h19, show isDg (tx q) = false from inI_lo _ h21]; rfl⟩
              · refine z_iconst (v := nI 3) C dX2_readToken_198 (by decide) ?_
                refine z_goto (tgt := 203) C dX2_readToken_199 (by decide) ?_
                refine zp_put_token C hin2 k58 dX2_readToken_203 ?_
                refine z_aload_n C dX2_readToken_206 1 rfl ?_
                refine z_aload_n C dX2_readToken_207 1 rfl ?_
                refine zp_get_tokenStart C hin2 (x := q) k61 dX2_readToken_208 rfl ?_
                refine z_iconst (v := nI 1) C dX2_readToken_211 (by decide) ?_
                refine zn_iadd C dX2_readToken_212 ?_
                refine zp_put_tokenEnd C hin2 k64 dX2_readToken_213 ?_
                refine z_lv [1, 2, 3] rfl ?_
                exact cut216 (3, q + 1) ⟨by dsimp only [kBf]; rw [show isLt (tx q) = false from inI_hi _ h19, show isDg (tx q) = false from inI_lo _ h21, if_pos h24]; rfl, by dsimp only [tkT]; rw [← hx92, if_neg hq9, show isLt (tx q) = false from inI_hi _ h19, show isDg (tx q) = false from inI_lo _ h21]; rfl⟩
            · refine z_iload_n C dX2_readToken_165 0 rfl ?_
              refine z_bipush (v := nI 57) C dX2_readToken_166 (by decide) ?_
              refine z_icmp_gt C 191 dX2_readToken_168 (by decide) (fun h25 => ?_) (fun h26 => ?_)
              · refine z_aload_n C dX2_readToken_191 1 rfl ?_
                refine z_iload_n C dX2_readToken_192 0 rfl ?_
                refine z_bipush (v := nI 59) C dX2_readToken_193 (by decide) ?_
                refine z_icmp_ne C 202 dX2_readToken_195 (by decide) (fun h27 => ?_) (fun h28 => ?_)
                · refine z_iconst (v := nI 4) C dX2_readToken_202 (by decide) ?_
                  refine zp_put_token C hin2 k58 dX2_readToken_203 ?_
                  refine z_aload_n C dX2_readToken_206 1 rfl ?_
                  refine z_aload_n C dX2_readToken_207 1 rfl ?_
                  refine zp_get_tokenStart C hin2 (x := q) k61 dX2_readToken_208 rfl ?_
                  refine z_iconst (v := nI 1) C dX2_readToken_211 (by decide) ?_
                  refine zn_iadd C dX2_readToken_212 ?_
                  refine zp_put_tokenEnd C hin2 k64 dX2_readToken_213 ?_
                  refine z_lv [1, 2, 3] rfl ?_
                  exact cut216 (4, q + 1) ⟨by dsimp only [kBf]; rw [show isLt (tx q) = false from inI_hi _ h19, show isDg (tx q) = false from inI_hi _ h25, if_neg h27]; rfl, by dsimp only [tkT]; rw [← hx92, if_neg hq9, show isLt (tx q) = false from inI_hi _ h19, show isDg (tx q) = false from inI_hi _ h25]; rfl⟩
                · refine z_iconst (v := nI 3) C dX2_readToken_198 (by decide) ?_
                  refine z_goto (tgt := 203) C dX2_readToken_199 (by decide) ?_
                  refine zp_put_token C hin2 k58 dX2_readToken_203 ?_
                  refine z_aload_n C dX2_readToken_206 1 rfl ?_
                  refine z_aload_n C dX2_readToken_207 1 rfl ?_
                  refine zp_get_tokenStart C hin2 (x := q) k61 dX2_readToken_208 rfl ?_
                  refine z_iconst (v := nI 1) C dX2_readToken_211 (by decide) ?_
                  refine zn_iadd C dX2_readToken_212 ?_
                  refine zp_put_tokenEnd C hin2 k64 dX2_readToken_213 ?_
                  refine z_lv [1, 2, 3] rfl ?_
                  exact cut216 (3, q + 1) ⟨by dsimp only [kBf]; rw [show isLt (tx q) = false from inI_hi _ h19, show isDg (tx q) = false from inI_hi _ h25, if_pos h28]; rfl, by dsimp only [tkT]; rw [← hx92, if_neg hq9, show isLt (tx q) = false from inI_hi _ h19, show isDg (tx q) = false from inI_hi _ h25]; rfl⟩
              · refine z_aload_n C dX2_readToken_171 1 rfl ?_
                refine z_iconst (v := nI 2) C dX2_readToken_172 (by decide) ?_
                refine zp_put_token C hin2 k58 dX2_readToken_173 ?_
                refine z_aload_n C dX2_readToken_176 1 rfl ?_
                refine z_aload_n C dX2_readToken_177 1 rfl ?_
                refine z_bipush (v := nI 48) C dX2_readToken_178 (by decide) ?_
                refine z_bipush (v := nI 57) C dX2_readToken_180 (by decide) ?_
                refine zp_call C (mX2_endOfRun l D κ Pa Sa _ _ _ 48 57 hF7 h5) gX2_readToken_X2_endOfRun rfl rfl rfl hdX2_endOfRun ⟨Nat.le_of_ble_eq_true rfl, Nat.le_of_ble_eq_true rfl⟩ rfl (Nat.le_of_ble_eq_true rfl) dX2_readToken_182 ⟨Nat.zero_le _, Nat.zero_le _⟩ ?_
                refine zp_put_tokenEnd C hin2 k64 dX2_readToken_185 ?_
                refine z_goto (tgt := 216) C dX2_readToken_188 (by decide) ?_
                refine z_lv [1, 2, 3] rfl ?_
                exact cut216 (2, scn isDg tx (v 5 - q) q) ⟨by dsimp only [kBf]; rw [show isLt (tx q) = false from inI_hi _ h19, show isDg (tx q) = true from inI_n _ h22 h26]; rfl, by dsimp only [tkT]; rw [← hx92, if_neg hq9, show isLt (tx q) = false from inI_hi _ h19, show isDg (tx q) = true from inI_n _ h22 h26]; rfl⟩
          · refine z_aload_n C dX2_readToken_139 1 rfl ?_
            refine z_iconst (v := nI 1) C dX2_readToken_140 (by decide) ?_
            refine zp_put_token C hin2 k58 dX2_readToken_141 ?_
            refine z_aload_n C dX2_readToken_144 1 rfl ?_
            refine z_aload_n C dX2_readToken_145 1 rfl ?_
            refine z_bipush (v := nI 97) C dX2_readToken_146 (by decide) ?_
            refine z_bipush (v := nI 122) C dX2_readToken_148 (by decide) ?_
            refine zp_call C (mX2_endOfRun l D κ Pa Sa _ _ _ 97 122 hF7 h5) gX2_readToken_X2_endOfRun rfl rfl rfl hdX2_endOfRun ⟨Nat.le_of_ble_eq_true rfl, Nat.le_of_ble_eq_true rfl⟩ rfl (Nat.le_of_ble_eq_true rfl) dX2_readToken_150 ⟨Nat.zero_le _, Nat.zero_le _⟩ ?_
            refine zp_put_tokenEnd C hin2 k64 dX2_readToken_153 ?_
            refine z_goto (tgt := 216) C dX2_readToken_156 (by decide) ?_
            refine z_lv [1, 2, 3] rfl ?_
            exact cut216 (1, scn isLt tx (v 5 - q) q) ⟨by dsimp only [kBf]; rw [show isLt (tx q) = true from inI_n _ h10 h20]; rfl, by dsimp only [tkT]; rw [← hx92, if_neg hq9, show isLt (tx q) = true from inI_n _ h10 h20]; rfl⟩
      · refine z_aload_n C dX2_readToken_111 0 rfl ?_
        refine z_iconst (v := nI 0) C dX2_readToken_112 (by decide) ?_
        refine zp_put_token C hin2 k58 dX2_readToken_113 ?_
        exact z_vret C hr9 hk (()) (rfl) (trivial) (List.Perm.of_eq (show PW κ Pa Sa eo (upN (upN (upN (upN v 9 (v 7)) 7 q) 8 q) 6 0) tx ++ [] = PW κ Pa Sa eo (rdV tx v) tx from by simp only [rdV, ← hx92, show tkC tx (v 5) (v 6) (v 8) = 0 from by simp only [tkC, ← hx92]; rw [if_pos (by omega)], show tkT tx (v 5) (v 8) = q from by simp only [tkT, ← hx92]; rw [if_pos (by omega)]]; rfl)) dX2_readToken_116 (Nat.le_refl _) (Nat.le_refl _)
    refine zp_get_tokenStart C hin2 (x := q) k61 dX2_readToken_41 rfl ?_
    refine z_aload_n C dX2_readToken_44 0 rfl ?_
    refine zp_get_limit C hin2 (x := v 5) k49 dX2_readToken_45 rfl ?_
    refine zn_icmp_ge C 92 dX2_readToken_48 (by decide) (by omega) (by omega) (fun h29 => ?_) (fun h30 => ?_)
    · refine z_lv [0, 1, 2] rfl ?_
      exact cut92 () (by rw [tkF, ← hi3]; exact (scn_no (Or.inl (by omega))).symm)
    · refine z_aload_n C dX2_readToken_51 0 rfl ?_
      refine zp_get_text C hin2 k11 dX2_readToken_52 ?_
      refine z_aload_n C dX2_readToken_55 0 rfl ?_
      refine zp_get_tokenStart C hin2 (x := q) k61 dX2_readToken_56 rfl ?_
      refine zp_ald C (by omega) dX2_readToken_59 ?_
      refine z_bipush (v := nI 32) C dX2_readToken_60 (by decide) ?_
      refine z_icmp_eq C 79 dX2_readToken_62 (by decide) (fun h31 => ?_) (fun h32 => ?_)
      · refine z_aload_n C dX2_readToken_79 0 rfl ?_
        refine z_dup C dX2_readToken_80 rfl ?_
        refine zp_get_tokenStart C hin2 (x := q) k61 dX2_readToken_81 rfl ?_
        refine z_iconst (v := nI 1) C dX2_readToken_84 (by decide) ?_
        refine zn_iadd C dX2_readToken_85 ?_
        refine zp_put_tokenStart C hin2 k61 dX2_readToken_86 ?_
        refine z_goto (tgt := 40) C dX2_readToken_89 (by decide) ?_
        refine z_lv [0, 1, 2] rfl ?_
        exact ih40 (q + 1) ⟨by omega, by omega, by rw [← scn_go (P := isSp) (by omega) (sp_1 h31)]; exact hi3⟩ (by omega)
      · refine z_aload_n C dX2_readToken_65 0 rfl ?_
        refine zp_get_text C hin2 k11 dX2_readToken_66 ?_
        refine z_aload_n C dX2_readToken_69 0 rfl ?_
        refine zp_get_tokenStart C hin2 (x := q) k61 dX2_readToken_70 rfl ?_
        refine zp_ald C (by omega) dX2_readToken_73 ?_
        refine z_bipush (v := nI 10) C dX2_readToken_74 (by decide) ?_
        refine z_icmp_ne C 92 dX2_readToken_76 (by decide) (fun h33 => ?_) (fun h34 => ?_)
        · refine z_lv [0, 1, 2] rfl ?_
          exact cut92 () (by rw [tkF, ← hi3]; exact (scn_no (Or.inr (sp_no h32 h33))).symm)
        · refine z_aload_n C dX2_readToken_79 0 rfl ?_
          refine z_dup C dX2_readToken_80 rfl ?_
          refine zp_get_tokenStart C hin2 (x := q) k61 dX2_readToken_81 rfl ?_
          refine z_iconst (v := nI 1) C dX2_readToken_84 (by decide) ?_
          refine zn_iadd C dX2_readToken_85 ?_
          refine zp_put_tokenStart C hin2 k61 dX2_readToken_86 ?_
          refine z_goto (tgt := 40) C dX2_readToken_89 (by decide) ?_
          refine z_lv [0, 1, 2] rfl ?_
          exact ih40 (q + 1) ⟨by omega, by omega, by rw [← scn_go (P := isSp) (by omega) (sp_2 h34)]; exact hi3⟩ (by omega)
  refine zp_get_token C hin2 (x := v 6) k58 dX2_readToken_1 rfl ?_
  refine z_iconst (v := nI 1) C dX2_readToken_4 (by decide) ?_
  refine zn_icmp_eq C 16 dX2_readToken_5 (by decide) (by omega) (by omega) (fun h35 => ?_) (fun h36 => ?_)
  · refine z_iconst (v := nI 1) C dX2_readToken_16 (by decide) ?_
    refine z_goto (tgt := 21) C dX2_readToken_17 (by decide) ?_
    refine z_lv [0] rfl ?_
    exact cut21 1 (by rw [show v 6 = 1 from by omega]; rfl)
  · refine z_aload_n C dX2_readToken_8 0 rfl ?_
    refine zp_get_token C hin2 (x := v 6) k58 dX2_readToken_9 rfl ?_
    refine z_iconst (v := nI 2) C dX2_readToken_12 (by decide) ?_
    refine zn_icmp_ne C 20 dX2_readToken_13 (by decide) (by omega) (by omega) (fun h37 => ?_) (fun h38 => ?_)
    · refine z_iconst (v := nI 0) C dX2_readToken_20 (by decide) ?_
      refine z_lv [0] rfl ?_
      exact cut21 0 (by rw [decide_eq_false (by omega), decide_eq_false (by omega)]; rfl)
    · refine z_iconst (v := nI 1) C dX2_readToken_16 (by decide) ?_
      refine z_goto (tgt := 21) C dX2_readToken_17 (by decide) ?_
      refine z_lv [0] rfl ?_
      exact cut21 1 (by rw [show v 6 = 2 from by omega]; rfl)
theorem hdX2_readToken : yX2_readToken.cls = RX2 ∧ yX2_readToken.cls ≠ "java/lang/invoke/MethodHandle" ∧ yX2_readToken.cls ≠ "java/lang/invoke/VarHandle" ∧ (parseMethodDescriptor yX2_readToken.desc).map (fun d => d.parameters.length) = some 0 := by decide +kernel
end Q1
