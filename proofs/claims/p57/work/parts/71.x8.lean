section X8
theorem tI_p {x : Nat} (h : 0 < x) : tI x = nI (x - 1) := by
  cases x with
  | zero => exact absurd h (Nat.lt_irrefl _)
  | succ n => rfl
theorem wNum_lo {q : (Nat → Nat) × Nat} {n : Nat} (h : n ≤ 9) : wNum q n = wPut q (48 + n) := by
  simp only [wNum]
  rw [if_neg (by omega), Nat.mod_eq_of_lt (by omega)]
theorem wRing_le {σ : Nat → Nat} {M : Nat} (hv : Inv M σ) (q : (Nat → Nat) × Nat) : ∀ k, k ≤ σ 1 → (wRing σ q k).2 ≤ q.2 + 3 * k
  | 0, _ => Nat.le_refl _
  | k + 1, h => by
    have h1 := wRing_le hv q k (by omega)
    have h2 := (hv.blk (c := k) (by omega)).2.2.2.2.2.2.2.1
    show (wRep (wBk2 σ (wRing σ q k) k) (σ (5 + 6 * k + 5))).2 ≤ _
    rw [wRep_2]
    show (wRing σ q k).2 + 1 + 1 + _ ≤ _
    omega
theorem wPut_le {q : (Nat → Nat) × Nat} {x B : Nat} (h : q.2 ≤ B) : (wPut q x).2 ≤ B + 1 := Nat.succ_le_succ h
theorem wNum_le {q : (Nat → Nat) × Nat} {x B : Nat} (h : q.2 ≤ B) : (wNum q x).2 ≤ B + 2 := Nat.le_trans (wNum_2 q x) (Nat.add_le_add_right h 2)
theorem isB_le {n : Nat} {x : Int32} (hn : n ≤ 999) (h : isB (n + 1) x = false) (h0 : ¬ x < 0) : ¬ x ≤ nI n := by
  intro q
  obtain ⟨k, hk, rfl⟩ := nI_of (x := x) h0
  have h9 := (zq_le hk (by omega)).mp q
  rw [isB_k (by omega) (show k < n + 1 by omega)] at h
  cases h
set_option maxRecDepth 100000 in
set_option maxHeartbeats 4000000 in
theorem mX5_append_ok (l : Launch) (D : va_G) (κ : Nat → ClassId) (Pa Pr : Nat → Nat) (ra c9 f9 h9 a9 b9 o9 : Nat) (eo : Int32) (v : Nat → Nat) (tx : Nat → Int32) (x1 x2 x3 x4 x5 : Int32) (h1 : v 1 ≤ 580) : zM l yX5_append wsX5_append { frames := 2, cells := 0, slots := 0, locals := 42 } D (zTy κ) [.ref ra, .int (x1), .int (x2), .int (x3), .int (x4), .int (x5)] (RC ra c9 f9 h9 a9 b9 (Pa 0) o9 ++ (PW κ Pa Pr eo v tx)) (S := Unit) (fun _ => (some (.int (nI (v 1 + 4 + 4 + 4 + 4 + 4))))) (fun _ => True) (fun _ => RC ra c9 f9 h9 a9 b9 (Pa 0) o9 ++ (PW κ Pa Pr eo (upN v 1 (v 1 + 4 + 4 + 4 + 4 + 4)) (fdF (fdF (fdF (fdF (fdF tx (v 1) x1) (v 1 + 4) x2) (v 1 + 4 + 4) x3) (v 1 + 4 + 4 + 4) x4) (v 1 + 4 + 4 + 4 + 4) x5))) 0 0 := by
  refine zM_of (cc := cX5_append) (maxL := 6) (rt := (some .int)) [(0, .ref (ra)), (1, .int (x1)), (2, .int (x2)), (3, .int (x3)), (4, .int (x4)), (5, .int (x5))] (by decide +kernel) rfl (Nat.le_of_ble_eq_true rfl) rfl ?_
  intro p e s m args below meth c A C hr9 hk hnm
  have C : zC p s m args c cX5_append 6 wsX5_append RX5 D (zTy κ) A := C
  have hin5 : ∀ w ∈ wsX50, w ∈ wsX5_append := fun w h => List.mem_cons_of_mem _ (List.mem_append_left _ (List.mem_append_left _ (List.mem_append_right _ h)))
  have hin2 : ∀ w ∈ wsX20, w ∈ wsX5_append := fun w h => List.mem_cons_of_mem _ (List.mem_append_left _ (List.mem_append_right _ h))
  have k39 : Cond.fieldLink RX5 39 "PeatRailway" "parser" "LPeatRailway$Parser;" ∈ wsX5_append := by decide +kernel
  have k86 : Cond.fieldLink RX5 86 "PeatRailway$Parser" "filled" "I" ∈ wsX5_append := by decide +kernel
  refine z_eq (ws' := RC ra c9 f9 h9 a9 b9 (Pa 0) o9 ++ (PW κ Pa Pr eo v tx ++ [])) ?_ rfl rfl rfl rfl
  refine z_aload_n C dX5_append_0 0 rfl ?_
  refine z_get C hin5 0 rfl rfl 5 (by decide) k39 rfl dX5_append_1 ?_
  refine z_bipush (v := nI 20) C dX5_append_4 (by decide) ?_
  refine z_callV C (mX2_hasRoom l D κ Pa Pr eo v tx 20 (by omega) (by omega)) gX5_append_X2_hasRoom rfl rfl rfl hdX2_hasRoom ⟨Nat.le_of_ble_eq_true rfl, Nat.le_of_ble_eq_true rfl⟩ 0 rfl rfl (RC ra c9 f9 h9 a9 b9 (Pa 0) o9) (fun _ => RC ra c9 f9 h9 a9 b9 (Pa 0) o9 ++ (PW κ Pa Pr eo v tx)) List.perm_append_comm (fun _ => List.perm_append_comm) rfl (Nat.le_of_ble_eq_true rfl) dX5_append_6 ⟨Nat.zero_le _, Nat.zero_le _⟩ (fun _ _ => ?_)
  refine zb_if_ne C 22 dX5_append_9 (by decide) (fun h1 => ?_) (fun h2 => ?_)
  · refine z_aload_n C dX5_append_22 0 rfl ?_
    refine z_get C hin5 0 rfl rfl 5 (by decide) k39 rfl dX5_append_23 ?_
    refine z_iload_n C dX5_append_26 1 rfl ?_
    refine z_callV C (mX2_putInt l D κ Pa Pr eo v tx (x1) (show v 1 ≤ 596 from by omega)) gX5_append_X2_putInt rfl rfl rfl hdX2_putInt ⟨Nat.le_of_ble_eq_true rfl, Nat.le_of_ble_eq_true rfl⟩ 0 rfl rfl (RC ra c9 f9 h9 a9 b9 (Pa 0) o9) (fun _ => RC ra c9 f9 h9 a9 b9 (Pa 0) o9 ++ (PW κ Pa Pr eo (upN v 1 (v 1 + 4)) (fdF tx (v 1) (x1)))) List.perm_append_comm (fun _ => List.perm_append_comm) rfl (Nat.le_of_ble_eq_true rfl) dX5_append_27 ⟨Nat.zero_le _, Nat.zero_le _⟩ (fun _ _ => ?_)
    refine z_aload_n C dX5_append_30 0 rfl ?_
    refine z_get C hin5 0 rfl rfl 5 (by decide) k39 rfl dX5_append_31 ?_
    refine z_iload_n C dX5_append_34 2 rfl ?_
    refine z_callV C (mX2_putInt l D κ Pa Pr eo (upN v 1 (v 1 + 4)) (fdF tx (v 1) (x1)) (x2) (show v 1 + 4 ≤ 596 from by omega)) gX5_append_X2_putInt rfl rfl rfl hdX2_putInt ⟨Nat.le_of_ble_eq_true rfl, Nat.le_of_ble_eq_true rfl⟩ 0 rfl rfl (RC ra c9 f9 h9 a9 b9 (Pa 0) o9) (fun _ => RC ra c9 f9 h9 a9 b9 (Pa 0) o9 ++ (PW κ Pa Pr eo (upN (upN v 1 (v 1 + 4)) 1 (v 1 + 4 + 4)) (fdF (fdF tx (v 1) (x1)) (v 1 + 4) (x2)))) List.perm_append_comm (fun _ => List.perm_append_comm) rfl (Nat.le_of_ble_eq_true rfl) dX5_append_35 ⟨Nat.zero_le _, Nat.zero_le _⟩ (fun _ _ => ?_)
    refine z_aload_n C dX5_append_38 0 rfl ?_
    refine z_get C hin5 0 rfl rfl 5 (by decide) k39 rfl dX5_append_39 ?_
    refine z_iload_n C dX5_append_42 3 rfl ?_
    refine z_callV C (mX2_putInt l D κ Pa Pr eo (upN (upN v 1 (v 1 + 4)) 1 (v 1 + 4 + 4)) (fdF (fdF tx (v 1) (x1)) (v 1 + 4) (x2)) (x3) (show v 1 + 4 + 4 ≤ 596 from by omega)) gX5_append_X2_putInt rfl rfl rfl hdX2_putInt ⟨Nat.le_of_ble_eq_true rfl, Nat.le_of_ble_eq_true rfl⟩ 0 rfl rfl (RC ra c9 f9 h9 a9 b9 (Pa 0) o9) (fun _ => RC ra c9 f9 h9 a9 b9 (Pa 0) o9 ++ (PW κ Pa Pr eo (upN (upN (upN v 1 (v 1 + 4)) 1 (v 1 + 4 + 4)) 1 (v 1 + 4 + 4 + 4)) (fdF (fdF (fdF tx (v 1) (x1)) (v 1 + 4) (x2)) (v 1 + 4 + 4) (x3)))) List.perm_append_comm (fun _ => List.perm_append_comm) rfl (Nat.le_of_ble_eq_true rfl) dX5_append_43 ⟨Nat.zero_le _, Nat.zero_le _⟩ (fun _ _ => ?_)
    refine z_aload_n C dX5_append_46 0 rfl ?_
    refine z_get C hin5 0 rfl rfl 5 (by decide) k39 rfl dX5_append_47 ?_
    refine z_iload C dX5_append_50 4 rfl ?_
    refine z_callV C (mX2_putInt l D κ Pa Pr eo (upN (upN (upN v 1 (v 1 + 4)) 1 (v 1 + 4 + 4)) 1 (v 1 + 4 + 4 + 4)) (fdF (fdF (fdF tx (v 1) (x1)) (v 1 + 4) (x2)) (v 1 + 4 + 4) (x3)) (x4) (show v 1 + 4 + 4 + 4 ≤ 596 from by omega)) gX5_append_X2_putInt rfl rfl rfl hdX2_putInt ⟨Nat.le_of_ble_eq_true rfl, Nat.le_of_ble_eq_true rfl⟩ 0 rfl rfl (RC ra c9 f9 h9 a9 b9 (Pa 0) o9) (fun _ => RC ra c9 f9 h9 a9 b9 (Pa 0) o9 ++ (PW κ Pa Pr eo (upN (upN (upN (upN v 1 (v 1 + 4)) 1 (v 1 + 4 + 4)) 1 (v 1 + 4 + 4 + 4)) 1 (v 1 + 4 + 4 + 4 + 4)) (fdF (fdF (fdF (fdF tx (v 1) (x1)) (v 1 + 4) (x2)) (v 1 + 4 + 4) (x3)) (v 1 + 4 + 4 + 4) (x4)))) List.perm_append_comm (fun _ => List.perm_append_comm) rfl (Nat.le_of_ble_eq_true rfl) dX5_append_52 ⟨Nat.zero_le _, Nat.zero_le _⟩ (fun _ _ => ?_)
    refine z_aload_n C dX5_append_55 0 rfl ?_
    refine z_get C hin5 0 rfl rfl 5 (by decide) k39 rfl dX5_append_56 ?_
    refine z_iload C dX5_append_59 5 rfl ?_
    refine z_callV C (mX2_putInt l D κ Pa Pr eo (upN (upN (upN (upN v 1 (v 1 + 4)) 1 (v 1 + 4 + 4)) 1 (v 1 + 4 + 4 + 4)) 1 (v 1 + 4 + 4 + 4 + 4)) (fdF (fdF (fdF (fdF tx (v 1) (x1)) (v 1 + 4) (x2)) (v 1 + 4 + 4) (x3)) (v 1 + 4 + 4 + 4) (x4)) (x5) (show v 1 + 4 + 4 + 4 + 4 ≤ 596 from by omega)) gX5_append_X2_putInt rfl rfl rfl hdX2_putInt ⟨Nat.le_of_ble_eq_true rfl, Nat.le_of_ble_eq_true rfl⟩ 0 rfl rfl (RC ra c9 f9 h9 a9 b9 (Pa 0) o9) (fun _ => RC ra c9 f9 h9 a9 b9 (Pa 0) o9 ++ (PW κ Pa Pr eo (upN (upN (upN (upN (upN v 1 (v 1 + 4)) 1 (v 1 + 4 + 4)) 1 (v 1 + 4 + 4 + 4)) 1 (v 1 + 4 + 4 + 4 + 4)) 1 (v 1 + 4 + 4 + 4 + 4 + 4)) (fdF (fdF (fdF (fdF (fdF tx (v 1) (x1)) (v 1 + 4) (x2)) (v 1 + 4 + 4) (x3)) (v 1 + 4 + 4 + 4) (x4)) (v 1 + 4 + 4 + 4 + 4) (x5)))) List.perm_append_comm (fun _ => List.perm_append_comm) rfl (Nat.le_of_ble_eq_true rfl) dX5_append_61 ⟨Nat.zero_le _, Nat.zero_le _⟩ (fun _ _ => ?_)
    refine z_aload_n C dX5_append_64 0 rfl ?_
    refine z_get C hin5 0 rfl rfl 5 (by decide) k39 rfl dX5_append_65 ?_
    refine z_get C hin2 1 rfl rfl 1 (by decide) k86 rfl dX5_append_68 ?_
    exact z_iret C hr9 hk (()) (rfl) (trivial) (List.Perm.of_eq (by rw [upN_2, upN_2, upN_2, upN_2])) dX5_append_71 (Nat.le_refl _) (Nat.le_refl _)
  · exact absurd (of_decide_eq_false h2) (by omega)
theorem hdX5_append : yX5_append.cls = RX5 ∧ yX5_append.cls ≠ "java/lang/invoke/MethodHandle" ∧ yX5_append.cls ≠ "java/lang/invoke/VarHandle" ∧ (parseMethodDescriptor yX5_append.desc).map (fun d => d.parameters.length) = some 5 := by decide +kernel
set_option maxRecDepth 100000 in
set_option maxHeartbeats 4000000 in
theorem mX5_append_no (l : Launch) (D : va_G) (κ : Nat → ClassId) (adK adV : Nat → Nat) (Pa Pr : Nat → Nat) (ra c9 f9 h9 a9 b9 o9 : Nat) (eo : Int32) (v : Nat → Nat) (tx : Nat → Int32) (x1 x2 x3 x4 x5 : Int32) (hls : l.stackTraces = false) (h1 : v 1 ≤ 600) (h2 : 580 < v 1) : zX (aX adK adV) l yX5_append wsX5_append { frames := 6, cells := 1, slots := 6, locals := 103 } D (zTy κ) [.ref (ra), .int (x1), .int (x2), .int (x3), .int (x4), .int (x5)] (RC ra c9 f9 h9 a9 b9 (Pa 0) o9 ++ (PW κ Pa Pr eo v tx)) eIS (S := Unit) (fun _ => True) (fun _ => RC ra c9 f9 h9 a9 b9 (Pa 0) o9 ++ (PW κ Pa Pr eo v tx)) 1 6 := by
  refine zX_of (cc := cX5_append) (maxL := 6) (rt := (some .int)) [(0, .ref (ra)), (1, .int (x1)), (2, .int (x2)), (3, .int (x3)), (4, .int (x4)), (5, .int (x5))] (by decide +kernel) rfl (Nat.le_of_ble_eq_true rfl) rfl ?_
  intro p e s m args below meth c A C hk htab hX
  have C : zC p s m args c cX5_append 6 wsX5_append RX5 D (zTy κ) A := C
  have hin5 : ∀ w ∈ wsX50, w ∈ wsX5_append := fun w h => List.mem_cons_of_mem _ (List.mem_append_left _ (List.mem_append_left _ (List.mem_append_right _ h)))
  have hin2 : ∀ w ∈ wsX20, w ∈ wsX5_append := fun w h => List.mem_cons_of_mem _ (List.mem_append_left _ (List.mem_append_right _ h))
  have k39 : Cond.fieldLink RX5 39 "PeatRailway" "parser" "LPeatRailway$Parser;" ∈ wsX5_append := by decide +kernel
  have k86 : Cond.fieldLink RX5 86 "PeatRailway$Parser" "filled" "I" ∈ wsX5_append := by decide +kernel
  refine z_eq (ws' := RC ra c9 f9 h9 a9 b9 (Pa 0) o9 ++ (PW κ Pa Pr eo v tx ++ [])) ?_ rfl rfl rfl rfl
  refine z_aload_n C dX5_append_0 0 rfl ?_
  refine z_get C hin5 0 rfl rfl 5 (by decide) k39 rfl dX5_append_1 ?_
  refine z_bipush (v := nI 20) C dX5_append_4 (by decide) ?_
  refine z_callV C (mX2_hasRoom l D κ Pa Pr eo v tx 20 (by omega) (by omega)) gX5_append_X2_hasRoom rfl rfl rfl hdX2_hasRoom ⟨Nat.le_of_ble_eq_true rfl, Nat.le_of_ble_eq_true rfl⟩ 0 rfl rfl (RC ra c9 f9 h9 a9 b9 (Pa 0) o9) (fun _ => RC ra c9 f9 h9 a9 b9 (Pa 0) o9 ++ (PW κ Pa Pr eo v tx)) List.perm_append_comm (fun _ => List.perm_append_comm) rfl (Nat.le_of_ble_eq_true rfl) dX5_append_6 ⟨Nat.zero_le _, Nat.zero_le _⟩ (fun _ _ => ?_)
  refine zb_if_ne C 22 dX5_append_9 (by decide) (fun h1 => ?_) (fun h2 => ?_)
  · exact absurd (of_decide_eq_true h1) (by omega)
  · exact zx_throw C htab hk hls hX (E0 := eIS) (names := ["java/lang/RuntimeException", "java/lang/Exception"]) tf_IS tn_n (show Cond.classLink RX5 76 eIS ∈ wsX5_append from by decide +kernel) (show Cond.initialized eIS ∈ wsX5_append from by decide +kernel) (fun w h => List.mem_cons_of_mem _ (List.mem_append_right _ h)) tb_IS tc_IS tg_IS 9 (by decide) rfl rfl dX5_append_12 dX5_append_15 dX5_append_16 dX5_append_18 dX5_append_21 (Nat.le_of_ble_eq_true rfl) (Nat.le_of_ble_eq_true rfl) (Nat.le_of_ble_eq_true rfl) (Nat.le_of_ble_eq_true rfl) (Nat.le_of_ble_eq_true rfl) (Nat.le_of_ble_eq_true rfl) (()) (trivial) (List.Perm.of_eq rfl)
end X8
