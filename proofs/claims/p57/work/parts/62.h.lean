section HC
/-- the output: n bytes of ot -/
abbrev OW (κ : Nat → ClassId) (Oa : Nat → Nat) (n : Nat) (ot : Nat → Nat) : va_W :=
  [(Oa 0, .inr (1, [.ref (Oa 1), .int (nI n)])), (Oa 1, .inl (κ 1, 64, .inl (nF ot)))]
/-- a slot -/
abbrev LW (κ : Nat → ClassId) (la : Nat) (Sa : Nat → Nat) (g : Nat → Nat → Nat) (f : Nat) : va_W :=
  SW κ Sa g ++ [(la, .inr (3, [.ref (Sa 0), .int (nI f)]))]
/-- the history's object and its array -/
abbrev HO (κ : Nat → ClassId) (Ha : Nat → Nat) (hf : Nat → Option Nat) (nx ct : Nat) : va_W :=
  [(Ha 0, .inr (0, [.ref (Ha 1), .int (nI nx), .int (nI ct)])), (Ha 1, .inl (κ 3, 10, .inr (.inr (.inr (.inr hf)))))]
/-- the history's states -/
def hW (κ : Nat → ClassId) (Hs : Nat → Nat → Nat) (gh : Nat → Nat → Nat → Nat) : Nat → va_W
  | 0 => []
  | n + 1 => SW κ (Hs n) (gh n) ++ hW κ Hs gh n
def upS {α : Type} (h : Nat → α) (k : Nat) (x : α) : Nat → α := fun j => if j = k then x else h j
theorem upS_s {α : Type} {h : Nat → α} {k : Nat} {x : α} : upS h k x k = x := if_pos rfl
theorem upS_n {α : Type} {h : Nat → α} {k j : Nat} {x : α} (q : j ≠ k) : upS h k x j = h j := if_neg q
theorem upS_id {α : Type} {h : Nat → α} {k : Nat} : upS h k (h k) = h := by
  funext j
  by_cases q : j = k
  · subst q; exact upS_s
  · exact upS_n q
theorem hW_congr {κ : Nat → ClassId} {Hs Hs' : Nat → Nat → Nat} {gh gh' : Nat → Nat → Nat → Nat} : ∀ n, (∀ j, j < n → Hs j = Hs' j ∧ gh j = gh' j) → hW κ Hs gh n = hW κ Hs' gh' n
  | 0, _ => rfl
  | n + 1, h => by
    simp only [hW]
    rw [hW_congr n (fun j hj => h j (by omega)), (h n (by omega)).1, (h n (by omega)).2]
theorem hW_at {κ : Nat → ClassId} {Hs : Nat → Nat → Nat} {gh : Nat → Nat → Nat → Nat} {k : Nat} : ∀ n, k < n → ∃ rest : va_W, ∀ g', (hW κ Hs (upS gh k g') n).Perm (SW κ (Hs k) g' ++ rest)
  | 0, h => absurd h (Nat.not_lt_zero _)
  | n + 1, h => by
    by_cases q : k = n
    · subst q
      refine ⟨hW κ Hs gh k, fun g' => List.Perm.of_eq ?_⟩
      simp only [hW]
      rw [upS_s, hW_congr k (fun j hj => ⟨rfl, upS_n (by omega)⟩)]
    · obtain ⟨rest, hr⟩ := hW_at (κ := κ) (Hs := Hs) (gh := gh) n (show k < n by omega)
      refine ⟨SW κ (Hs n) (gh n) ++ rest, fun g' => ?_⟩
      simp only [hW]
      rw [upS_n (fun z => q z.symm)]
      exact ((hr g').append_left _).trans zp_mid
theorem lt17 {j : Nat} (h : j < 17) : j = 0 ∨ j = 1 ∨ j = 2 ∨ j = 3 ∨ j = 4 ∨ j = 5 ∨ j = 6 ∨ j = 7 ∨ j = 8 ∨ j = 9 ∨ j = 10 ∨ j = 11 ∨ j = 12 ∨ j = 13 ∨ j = 14 ∨ j = 15 ∨ j = 16 := by omega
abbrev sDf : List Value := [.int (nI 0), .int (nI 0), .int (nI 0), .int (nI 0), .int (nI 0), .null, .null, .null, .null, .null, .null, .null, .null, .null, .null, .null, .null]
theorem sDf_ok : ∀ j, j < 17 → defaultValue (tyX4 j) = vp_V sDf j := fun j hj => by
  rcases lt17 hj with rfl | rfl | rfl | rfl | rfl | rfl | rfl | rfl | rfl | rfl | rfl | rfl | rfl | rfl | rfl | rfl | rfl <;> rfl
set_option maxRecDepth 100000 in
set_option maxHeartbeats 4000000 in
theorem mX2_init (l : Launch) (D : va_G) (κ : Nat → ClassId) (a : Nat) : zMc nX l yX2_init wsX2_init { frames := 2, cells := 14, slots := 752, locals := 44 } D (zTy κ) [.ref a] [(a, .inr (2, [.null, .int (nI 0), .int (nI 0), .int (nI 0), .null, .int (nI 0), .int (nI 0), .int (nI 0), .int (nI 0), .int (nI 0)]))] (S := (Nat → Nat) × (Nat → Nat)) (fun _ => none) (fun u => u.1 0 = a) (fun u => SW κ u.2 g00 ++ PW κ u.1 u.2 (-1) (fun _ => 0) (fun _ => 0)) 14 752 := by
  refine zMc_of (cc := cX2_init) (maxL := 1) (rt := none) [(0, .ref a)] (by decide +kernel) rfl (Nat.le_of_ble_eq_true rfl) rfl ?_
  intro p e s m args below meth c A C hr9 hk hnm hX
  have C : zC p s m args c cX2_init 1 wsX2_init RX2 D (zTy κ) A := C
  have hin2 : ∀ w ∈ wsX20, w ∈ wsX2_init := fun w h => List.mem_cons_of_mem _ (List.mem_append_left _ (List.mem_append_right _ h))
  have hin4 : ∀ w ∈ wsX40, w ∈ wsX2_init := fun w h => List.mem_cons_of_mem _ (List.mem_append_right _ h)
  refine z_aload_n C dX2_init_0 0 rfl ?_
  refine z_oinit C (show Cond.methodLink RX2 3 objectInit ∈ wsX2_init from by decide +kernel) (by decide +kernel) (List.mem_cons_of_mem _ (List.mem_append_left _ (List.mem_append_left _ (List.mem_append_left _ (List.mem_of_getElem? (i := 2) rfl))))) ⟨Nat.le_of_ble_eq_true rfl, Nat.le_of_ble_eq_true rfl⟩ (Nat.le_of_ble_eq_true rfl) dX2_init_1 ?_
  refine z_aload_n C dX2_init_4 0 rfl ?_
  refine z_sipush (v := nI 600) C dX2_init_5 (by decide) ?_
  refine z_newa C (ty := .byte) (by decide +kernel) rfl 1 rfl hu_byte (N := 600) (a0 := (600, .inl (fun _ => 0))) (fun _ => rfl) (by decide) (by decide) (Nat.le_of_ble_eq_true rfl) (Nat.le_of_ble_eq_true rfl) dX2_init_8 (fun q1 => ?_)
  refine z_putF C hin2 tyX2 tyX2_ok nmX2 hnm 0 rfl rfl 0 (by decide) (show Cond.fieldLink RX2 11 "PeatRailway$Parser" "text" "[B" ∈ wsX2_init from by decide +kernel) rfl rfl rfl rfl (Nat.le_of_ble_eq_true rfl) dX2_init_10 [(a, .inr (2, [.ref q1, .int (nI 0), .int (nI 0), .int (nI 0), .null, .int (nI 0), .int (nI 0), .int (nI 0), .int (nI 0), .int (nI 0)])), (q1, .inl (κ 1, 600, .inl (fun _ => 0)))] rfl ?_
  refine z_aload_n C dX2_init_13 0 rfl ?_
  refine z_iconst (v := (-1)) C dX2_init_14 (by decide) ?_
  refine z_put C hin2 tyX2 tyX2_ok nmX2 0 rfl rfl 3 (by decide) (show Cond.fieldLink RX2 15 "PeatRailway$Parser" "errorOffset" "I" ∈ wsX2_init from by decide +kernel) rfl rfl rfl (Nat.le_of_ble_eq_true rfl) dX2_init_15 [(a, .inr (2, [.ref q1, .int (nI 0), .int (nI 0), .int (-1), .null, .int (nI 0), .int (nI 0), .int (nI 0), .int (nI 0), .int (nI 0)])), (q1, .inl (κ 1, 600, .inl (fun _ => 0)))] rfl ?_
  refine z_aload_n C dX2_init_18 0 rfl ?_
  refine z_new (ci := 4) C hin4 tyX4 tyX4_ok (show Cond.classLink RX2 19 RX4 ∈ wsX2_init from by decide +kernel) (show Cond.instantiable RX4 17 ∈ wsX2_init from by decide +kernel) (show Cond.initialized RX4 ∈ wsX2_init from by decide +kernel) rfl sDf_ok (Nat.le_of_ble_eq_true rfl) (Nat.le_of_ble_eq_true rfl) dX2_init_19 (fun q20 => ?_)
  refine z_dup C dX2_init_22 rfl ?_
  refine z_callN C (mX4_init l D κ q20) (fun _ => rfl) gX2_init_X4_init_n21 rfl rfl rfl (hX.1 _ (List.mem_of_getElem? (i := 5) rfl)) (by decide +kernel) (by decide +kernel) rfl ⟨by decide +kernel, by decide +kernel, by decide +kernel⟩ ⟨Nat.le_of_ble_eq_true rfl, Nat.le_of_ble_eq_true rfl⟩ ([(a, .inr (2, [.ref q1, .int (nI 0), .int (nI 0), .int (-1), .null, .int (nI 0), .int (nI 0), .int (nI 0), .int (nI 0), .int (nI 0)])), (q1, .inl (κ 1, 600, .inl (fun _ => 0)))]) (fun u => SW κ u g00 ++ ([(a, .inr (2, [.ref q1, .int (nI 0), .int (nI 0), .int (-1), .null, .int (nI 0), .int (nI 0), .int (nI 0), .int (nI 0), .int (nI 0)])), (q1, .inl (κ 1, 600, .inl (fun _ => 0)))])) List.perm_append_comm (fun _ => List.Perm.refl _) rfl (Nat.le_of_ble_eq_true rfl) dX2_init_23 ⟨Nat.le_of_ble_eq_true rfl, Nat.le_of_ble_eq_true rfl⟩ (fun q2 hq2 => ?_)
  obtain rfl : q2 0 = q20 := hq2
  refine z_putF C hin2 tyX2 tyX2_ok nmX2 hnm 13 rfl rfl 4 (by decide) (show Cond.fieldLink RX2 22 "PeatRailway$Parser" "result" "LPeatRailway$State;" ∈ wsX2_init from by decide +kernel) rfl rfl rfl rfl (Nat.le_of_ble_eq_true rfl) dX2_init_26 (SW κ q2 g00 ++ [(a, .inr (2, [.ref q1, .int (nI 0), .int (nI 0), .int (-1), .ref (q2 0), .int (nI 0), .int (nI 0), .int (nI 0), .int (nI 0), .int (nI 0)])), (q1, .inl (κ 1, 600, .inl (fun _ => 0)))]) rfl ?_
  exact z_vret C hr9 hk (fun k => [a, q1].getD k 0, q2) rfl rfl (List.Perm.of_eq rfl) dX2_init_29 (Nat.le_of_ble_eq_true rfl) (Nat.le_of_ble_eq_true rfl)
set_option maxRecDepth 100000 in
set_option maxHeartbeats 4000000 in
theorem mX3_init (l : Launch) (D : va_G) (κ : Nat → ClassId) (a : Nat) : zMc nX l yX3_init wsX3_init { frames := 2, cells := 13, slots := 152, locals := 44 } D (zTy κ) [.ref a] [(a, .inr (3, [.null, .int (nI 0)]))] (S := Nat → Nat) (fun _ => none) (fun _ => True) (fun u => LW κ a u g00 0) 13 152 := by
  refine zMc_of (cc := cX3_init) (maxL := 1) (rt := none) [(0, .ref a)] (by decide +kernel) rfl (Nat.le_of_ble_eq_true rfl) rfl ?_
  intro p e s m args below meth c A C hr9 hk hnm hX
  have C : zC p s m args c cX3_init 1 wsX3_init RX3 D (zTy κ) A := C
  have hin4 : ∀ w ∈ wsX40, w ∈ wsX3_init := fun w h => List.mem_cons_of_mem _ (List.mem_append_left _ (List.mem_append_right _ h))
  have hin3 : ∀ w ∈ wsX30, w ∈ wsX3_init := fun w h => List.mem_cons_of_mem _ (List.mem_append_right _ h)
  refine z_aload_n C dX3_init_0 0 rfl ?_
  refine z_oinit C (show Cond.methodLink RX3 1 objectInit ∈ wsX3_init from by decide +kernel) (by decide +kernel) (List.mem_cons_of_mem _ (List.mem_append_left _ (List.mem_append_left _ (List.mem_of_getElem? (i := 2) rfl)))) ⟨Nat.le_of_ble_eq_true rfl, Nat.le_of_ble_eq_true rfl⟩ (Nat.le_of_ble_eq_true rfl) dX3_init_1 ?_
  refine z_aload_n C dX3_init_4 0 rfl ?_
  refine z_new (ci := 4) C hin4 tyX4 tyX4_ok (show Cond.classLink RX3 7 RX4 ∈ wsX3_init from by decide +kernel) (show Cond.instantiable RX4 17 ∈ wsX3_init from by decide +kernel) (show Cond.initialized RX4 ∈ wsX3_init from by decide +kernel) rfl sDf_ok (Nat.le_of_ble_eq_true rfl) (Nat.le_of_ble_eq_true rfl) dX3_init_5 (fun q20 => ?_)
  refine z_dup C dX3_init_8 rfl ?_
  refine z_callN C (mX4_init l D κ q20) (fun _ => rfl) gX3_init_X4_init_n9 rfl rfl rfl (hX.1 _ (List.mem_of_getElem? (i := 3) rfl)) (by decide +kernel) (by decide +kernel) rfl ⟨by decide +kernel, by decide +kernel, by decide +kernel⟩ ⟨Nat.le_of_ble_eq_true rfl, Nat.le_of_ble_eq_true rfl⟩ ([(a, .inr (3, [.null, .int (nI 0)]))]) (fun u => SW κ u g00 ++ ([(a, .inr (3, [.null, .int (nI 0)]))])) List.perm_append_comm (fun _ => List.Perm.refl _) rfl (Nat.le_of_ble_eq_true rfl) dX3_init_9 ⟨Nat.le_of_ble_eq_true rfl, Nat.le_of_ble_eq_true rfl⟩ (fun q2 hq2 => ?_)
  obtain rfl : q2 0 = q20 := hq2
  refine z_putF C hin3 tyX3 tyX3_ok nmX3 hnm 13 rfl rfl 0 (by decide) (show Cond.fieldLink RX3 10 "PeatRailway$Slot" "state" "LPeatRailway$State;" ∈ wsX3_init from by decide +kernel) rfl rfl rfl rfl (Nat.le_of_ble_eq_true rfl) dX3_init_12 (LW κ a q2 g00 0) rfl ?_
  exact z_vret C hr9 hk q2 rfl trivial (List.Perm.of_eq rfl) dX3_init_15 (Nat.le_of_ble_eq_true rfl) (Nat.le_of_ble_eq_true rfl)
set_option maxRecDepth 100000 in
set_option maxHeartbeats 4000000 in
theorem mX1_init (l : Launch) (D : va_G) (κ : Nat → ClassId) (a : Nat) : zM l yX1_init wsX1_init { frames := 1, cells := 1, slots := 64, locals := 20 } D (zTy κ) [.ref a] [(a, .inr (1, [.null, .int (nI 0)]))] (S := Nat → Nat) (fun _ => none) (fun u => u 0 = a) (fun u => OW κ u 0 (fun _ => 0)) 1 64 := by
  refine zM_of (cc := cX1_init) (maxL := 1) (rt := none) [(0, .ref a)] (by decide +kernel) rfl (Nat.le_of_ble_eq_true rfl) rfl ?_
  intro p e s m args below meth c A C hr9 hk hnm
  have C : zC p s m args c cX1_init 1 wsX1_init RX1 D (zTy κ) A := C
  have hin1 : ∀ w ∈ wsX10, w ∈ wsX1_init := fun w h => List.mem_cons_of_mem _ (List.mem_append_right _ h)
  refine z_aload_n C dX1_init_0 0 rfl ?_
  refine z_oinit C (show Cond.methodLink RX1 1 objectInit ∈ wsX1_init from by decide +kernel) (by decide +kernel) (List.mem_cons_of_mem _ (List.mem_append_left _ (List.mem_of_getElem? (i := 2) rfl))) ⟨Nat.le_of_ble_eq_true rfl, Nat.le_of_ble_eq_true rfl⟩ (Nat.le_of_ble_eq_true rfl) dX1_init_1 ?_
  refine z_aload_n C dX1_init_4 0 rfl ?_
  refine z_bipush (v := nI 64) C dX1_init_5 (by decide) ?_
  refine z_newa C (ty := .byte) (by decide +kernel) rfl 1 rfl hu_byte (N := 64) (a0 := (64, .inl (nF (fun _ => 0)))) (fun _ => rfl) (by decide) (by decide) (Nat.le_of_ble_eq_true rfl) (Nat.le_of_ble_eq_true rfl) dX1_init_7 (fun q1 => ?_)
  refine z_putF C hin1 tyX1 tyX1_ok nmX1 hnm 0 rfl rfl 0 (by decide) (show Cond.fieldLink RX1 9 "PeatRailway$Output" "bytes" "[B" ∈ wsX1_init from by decide +kernel) rfl rfl rfl rfl (Nat.le_of_ble_eq_true rfl) dX1_init_9 [(a, .inr (1, [.ref q1, .int (nI 0)])), (q1, .inl (κ 1, 64, .inl (nF (fun _ => 0))))] rfl ?_
  exact z_vret C hr9 hk (fun k => [a, q1].getD k 0) rfl rfl (List.Perm.of_eq rfl) dX1_init_12 (Nat.le_of_ble_eq_true rfl) (Nat.le_of_ble_eq_true rfl)
set_option maxRecDepth 100000 in
set_option maxHeartbeats 4000000 in
theorem mX0_init (l : Launch) (D : va_G) (κ : Nat → ClassId) (a : Nat) : zMc nX l yX0_init wsX0_init { frames := 2, cells := 131, slots := 1530, locals := 44 } D (zTy κ) [.ref a] [(a, .inr (0, [.null, .int (nI 0), .int (nI 0)]))] (S := (Nat → Nat) × (Nat → Nat → Nat) × (Nat → Option Nat)) (fun _ => none) (fun u => u.1 0 = a ∧ ∀ j, j < 10 → u.2.2 j = some (u.2.1 j 0)) (fun u => HO κ u.1 u.2.2 0 0 ++ hW κ u.2.1 (fun _ => g00) 10) 131 1530 := by
  refine zMc_of (cc := cX0_init) (maxL := 2) (rt := none) [(0, .ref a)] (by decide +kernel) rfl (Nat.le_of_ble_eq_true rfl) rfl ?_
  intro p e s m args below meth c A C hr9 hkk hnm hX
  have C : zC p s m args c cX0_init 2 wsX0_init RX0 D (zTy κ) A := C
  have hin0 : ∀ w ∈ wsX00, w ∈ wsX0_init := fun w h => List.mem_cons_of_mem _ (List.mem_append_left _ (List.mem_append_right _ h))
  have hin4 : ∀ w ∈ wsX40, w ∈ wsX0_init := fun w h => List.mem_cons_of_mem _ (List.mem_append_right _ h)
  refine z_aload_n C dX0_init_0 0 rfl ?_
  refine z_oinit C (show Cond.methodLink RX0 1 objectInit ∈ wsX0_init from by decide +kernel) (by decide +kernel) (List.mem_cons_of_mem _ (List.mem_append_left _ (List.mem_append_left _ (List.mem_of_getElem? (i := 2) rfl)))) ⟨Nat.le_of_ble_eq_true rfl, Nat.le_of_ble_eq_true rfl⟩ (Nat.le_of_ble_eq_true rfl) dX0_init_1 ?_
  refine z_aload_n C dX0_init_4 0 rfl ?_
  refine z_bipush (v := nI 10) C dX0_init_5 (by decide) ?_
  refine z_newq C (show Cond.classLink RX0 9 RX4 ∈ wsX0_init from by decide +kernel) hX.2.2.2.1 3 rfl (N := 10) (by decide) (Nat.le_of_ble_eq_true rfl) (Nat.le_of_ble_eq_true rfl) dX0_init_7 (fun q1 => ?_)
  refine z_putF C hin0 tyX0 tyX0_ok nmX0 hnm 0 rfl rfl 0 (by decide) (show Cond.fieldLink RX0 11 "PeatRailway$History" "states" "[LPeatRailway$State;" ∈ wsX0_init from by decide +kernel) rfl rfl rfl rfl (Nat.le_of_ble_eq_true rfl) dX0_init_10 [(a, .inr (0, [.ref q1, .int (nI 0), .int (nI 0)])), (q1, .inl (κ 3, 10, .inr (.inr (.inr (.inr (fun _ => none))))))] rfl ?_
  refine z_iconst (v := nI 0) C dX0_init_13 (by decide) ?_
  refine z_istore_n C [(1, .int (nI 0)), (0, .ref a)] dX0_init_14 (by decide) rfl ?_
  have key : ∀ (n k cells slots : Nat) (Hs : Nat → Nat → Nat) (hf : Nat → Option Nat), n + k = 10 → cells = 1 + 13 * k → slots = 10 + 152 * k → (∀ j, j < k → hf j = some (Hs j 0)) → zW p l e ({ frames := 2, cells := 131, slots := 1530, locals := 44 } : Room) s m args below meth c 2 D A cells slots (MQ below (zPo D (zTy κ) (S := (Nat → Nat) × (Nat → Nat → Nat) × (Nat → Option Nat)) (fun _ => none) (fun u => u.1 0 = a ∧ ∀ j, j < 10 → u.2.2 j = some (u.2.1 j 0)) (fun u => HO κ u.1 u.2.2 0 0 ++ hW κ u.2.1 (fun _ => g00) 10) A) args s 131 1530 A) (HO κ (fun k => [a, q1].getD k 0) hf 0 0 ++ hW κ Hs (fun _ => g00) k) [(1, .int (nI k)), (0, .ref a)] 15 [] := by
    intro n
    induction n with
    | zero =>
      intro k cells slots Hs hf hk hc hs hh
      have hk : k = 10 := by omega
      subst hk
      refine z_iload_n C dX0_init_15 0 rfl ?_
      refine z_bipush (v := nI 10) C dX0_init_16 (by decide) ?_
      refine zn_icmp_ge C 40 dX0_init_18 (by decide) (by decide) (by decide) (fun _ => ?_) (fun q => absurd q (by decide))
      exact z_vret C hr9 hkk (fun k => [a, q1].getD k 0, Hs, hf) rfl ⟨rfl, hh⟩ (List.Perm.of_eq rfl) dX0_init_40 (by omega) (by omega)
    | succ n ih =>
      intro k cells slots Hs hf hk hc hs hh
      refine z_iload_n C dX0_init_15 0 rfl ?_
      refine z_bipush (v := nI 10) C dX0_init_16 (by decide) ?_
      refine zn_icmp_ge C 40 dX0_init_18 (by decide) (by omega) (by decide) (fun q => absurd q (by omega)) (fun _ => ?_)
      refine z_aload_n C dX0_init_21 1 rfl ?_
      refine z_get C hin0 0 rfl rfl 0 (by decide) (show Cond.fieldLink RX0 11 "PeatRailway$History" "states" "[LPeatRailway$State;" ∈ wsX0_init from by decide +kernel) rfl dX0_init_22 ?_
      refine z_iload_n C dX0_init_25 0 rfl ?_
      refine z_new (ci := 4) C hin4 tyX4 tyX4_ok (show Cond.classLink RX0 9 RX4 ∈ wsX0_init from by decide +kernel) (show Cond.instantiable RX4 17 ∈ wsX0_init from by decide +kernel) (show Cond.initialized RX4 ∈ wsX0_init from by decide +kernel) rfl sDf_ok (by show _ ≤ 131; omega) (by show _ ≤ 1530; omega) dX0_init_26 (fun q0 => ?_)
      refine z_dup C dX0_init_29 rfl ?_
      refine z_callN C (mX4_init l D κ q0) (fun _ => rfl) gX0_init_X4_init_n15 rfl rfl rfl (hX.1 _ (List.mem_of_getElem? (i := 1) rfl)) (by decide +kernel) (by decide +kernel) rfl ⟨by decide +kernel, by decide +kernel, by decide +kernel⟩ ⟨Nat.le_of_ble_eq_true rfl, Nat.le_of_ble_eq_true rfl⟩ (HO κ (fun k => [a, q1].getD k 0) hf 0 0 ++ hW κ Hs (fun _ => g00) k) (fun u => SW κ u g00 ++ (HO κ (fun k => [a, q1].getD k 0) hf 0 0 ++ hW κ Hs (fun _ => g00) k)) List.perm_append_comm (fun _ => List.Perm.refl _) rfl (Nat.le_of_ble_eq_true rfl) dX0_init_30 ⟨by show _ ≤ 131; omega, by show _ ≤ 1530; omega⟩ (fun u hu => ?_)
      obtain rfl : u 0 = q0 := hu
      refine z_aast C 14 3 0 4 rfl rfl rfl rfl (i := k) (by omega) (by decide) dX0_init_33 (SW κ u g00 ++ (HO κ (fun k => [a, q1].getD k 0) (va_up hf k (some (u 0))) 0 0 ++ hW κ Hs (fun _ => g00) k)) rfl ?_
      refine zn_iinc (n := 1) C [(1, .int (nI (k + 1))), (0, .ref a)] dX0_init_34 0 rfl (by decide) rfl ?_
      refine z_goto (tgt := 15) C dX0_init_37 (by decide) ?_
      refine z_ws (ws' := HO κ (fun k => [a, q1].getD k 0) (va_up hf k (some (u 0))) 0 0 ++ hW κ (upS Hs k u) (fun _ => g00) (k + 1)) ?_ (ih (k + 1) _ _ (upS Hs k u) (va_up hf k (some (u 0))) (by omega) (by omega) (by omega) (fun j hj => ?_))
      · simp only [hW]
        rw [upS_s, hW_congr k (fun j hj => ⟨(upS_n (show j ≠ k by omega) : upS Hs k u j = Hs j), rfl⟩)]
        exact zp_mid
      · show (if j = k then _ else _) = _
        split
        · subst j; rw [upS_s]
        · rw [upS_n (by omega)]; exact hh j (by omega)
  exact key 10 0 _ _ (fun _ _ => 0) (fun _ => none) rfl rfl rfl (fun j hj => absurd hj (Nat.not_lt_zero _))
end HC
