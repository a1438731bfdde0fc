section LY
abbrev VAW (κ : Nat → ClassId) (qa : Nat) (vv : Nat → Int32) : va_W := [(qa, .inl (κ 0, 5, .inl vv))]
theorem pmL {α : Type} {S R H a b p q T : List α} : ((S ++ (R ++ (H ++ (a ++ (b ++ (p ++ q)))))) ++ T).Perm (((R ++ q) ++ T) ++ (S ++ (H ++ (a ++ (b ++ p))))) := by
  classical
  exact List.perm_iff_count.mpr (fun x => by simp only [List.count_append]; omega)
theorem ty_s {h v : Nat → Nat} {m9 c : Nat} {old vv : Nat → Int32} {tx : Nat → Int32} (h8 : ∀ j, h j < 128) (hv1 : v 1 = 20 * c) (hvv : ∀ i, i < 5 → vv i = pkV h m9 (20 * c) old 20 i) (htx : ∀ j, j < 20 * c → j < m9 → tx j = nI (h j)) : ∀ j, j < 20 * (c + 1) → j < m9 → fdF (fdF (fdF (fdF (fdF tx (v 1) (vv 0)) (v 1 + 4) (vv 1)) (v 1 + 4 + 4) (vv 2)) (v 1 + 4 + 4 + 4) (vv 3)) (v 1 + 4 + 4 + 4 + 4) (vv 4) j = nI (h j) := by
  intro j hj hjm
  rw [hv1, fd_20 h8 hvv j (by omega)]
  by_cases q : 20 * c ≤ j
  · rw [if_pos q]
    simp only [chF]
    rw [if_pos hjm]
  · rw [if_neg q]
    exact htx j (by omega) hjm
theorem ty_v {v : Nat → Nat} {c : Nat} (hv1 : v 1 = 20 * c) : upN v 1 (v 1 + 4 + 4 + 4 + 4 + 4) 1 = 20 * (c + 1) := by
  rw [upN_s]
  omega
set_option maxRecDepth 100000 in
set_option maxHeartbeats 16000000 in
theorem mL_type (l : Launch) (D : va_G) (κ : Nat → ClassId) (adK adV : Nat → Nat) (Pa Pr : Nat → Nat) (ra c9 f9 h9 a9 b9 o9 : Nat) (eo : Int32) (v : Nat → Nat) (tx : Nat → Int32) (sa sv m9 : Nat) (h : Nat → Nat) (hv0 : v 1 = 0) (hm : m9 ≤ 300) (h8 : ∀ j, h j < 128) : zMc (cX adK adV) l yL_type wsL_type { frames := 4, cells := 1, slots := 5, locals := 85 } D (zTy κ) [.ref (ra), .ref (sa)] ((RC ra c9 f9 h9 a9 b9 (Pa 0) o9 ++ PW κ Pa Pr eo v tx) ++ STW κ sa sv m9 h) (S := (Nat → Nat) × (Nat → Int32)) (fun u => some (.int (nI m9))) (fun u => u.1 1 ≤ 600 ∧ m9 ≤ u.1 1 ∧ ∀ j, j < m9 → u.2 j = nI (h j)) (fun u => (RC ra c9 f9 h9 a9 b9 (Pa 0) o9 ++ PW κ Pa Pr eo u.1 u.2) ++ STW κ sa sv m9 h) 1 5 := by
  refine zMc_of (cc := cL_type) (maxL := 6) (rt := (some .int)) [(0, .ref (ra)), (1, .ref (sa))] (by decide +kernel) rfl (Nat.le_of_ble_eq_true rfl) rfl ?_
  intro p e s m args below meth c A C hr9 hk hnm hX
  have C : zC p s m args c cL_type 6 wsL_type RL D (zTy κ) A := C
  refine z_iconst (v := nI 0) C dL_type_0 (by decide) ?_
  refine z_istore_n C [(2, .int (nI 0)), (0, .ref (ra)), (1, .ref (sa))] dL_type_1 (by decide) rfl ?_
  refine z_iconst (v := nI 5) C dL_type_2 (by decide) ?_
  refine z_newa C (ty := .int) (by decide +kernel) rfl 0 rfl hu_int (N := 5) (a0 := (5, .inl (fun _ => 0))) (fun _ => rfl) (by decide) (by decide) (Nat.le_of_ble_eq_true rfl) (Nat.le_of_ble_eq_true rfl) dL_type_3 (fun qa => ?_)
  refine z_ws (ws' := (RC ra c9 f9 h9 a9 b9 (Pa 0) o9 ++ PW κ Pa Pr eo v tx) ++ (STW κ sa sv m9 h ++ VAW κ qa (fun _ => 0))) (List.Perm.of_eq (List.append_assoc _ _ _)) ?_
  refine z_astore_n C [(3, .ref (qa)), (2, .int (nI 0)), (0, .ref (ra)), (1, .ref (sa))] dL_type_5 (by decide) rfl ?_
  refine z_iconst (v := nI 0) C dL_type_6 (by decide) ?_
  refine z_istore C [(4, .int (nI 0)), (3, .ref (qa)), (2, .int (nI 0)), (0, .ref (ra)), (1, .ref (sa))] dL_type_7 (by decide) rfl ?_
  refine z_lv [3, 4, 2, 1, 0] rfl ?_
  refine z_loop (σ := Nat × (Nat → Nat) × (Nat → Int32) × (Nat → Int32) × Nat) (fun x => (RC ra c9 f9 h9 a9 b9 (Pa 0) o9 ++ PW κ Pa Pr eo x.2.1 x.2.2.1) ++ (STW κ sa sv m9 h ++ VAW κ qa x.2.2.2.1)) (fun x => [(0, .ref (ra)), (1, .ref (sa)), (2, .int (nI x.2.2.2.2)), (3, .ref (qa)), (4, .int (nI (20 * x.1)))]) (fun x => x.2.1 1 = 20 * x.1 ∧ 20 * x.1 < m9 + 20 ∧ ∀ j, j < 20 * x.1 → j < m9 → x.2.2.1 j = nI (h j)) (fun x => m9 + 20 - 20 * x.1) ((0, v, tx, (fun _ => 0), 0)) (⟨hv0, by show 20 * 0 < m9 + 20; omega, fun j hj => absurd hj (Nat.not_lt_zero j)⟩) rfl rfl ?_
  rintro ⟨c9c, v, tx, vv, n2⟩ hI9 ih9
  dsimp only at hI9 ih9 ⊢
  obtain ⟨hv1, hc1, htx⟩ := hI9
  refine z_iload C dL_type_9 4 rfl ?_
  refine z_aload_n C dL_type_11 1 rfl ?_
  refine z_callVc C (cX_ok adK adV) hX (mJ0_length_8abf5_s l D κ adK adV sa sv m9 h) gL_type_J0_length_8abf5 rfl rfl rfl (show yJ0_length_8abf5.cls = RJ0 ∧ yJ0_length_8abf5.cls ≠ "java/lang/invoke/MethodHandle" ∧ yJ0_length_8abf5.cls ≠ "java/lang/invoke/VarHandle" ∧ (parseMethodDescriptor yJ0_length_8abf5.desc).map (fun d => d.parameters.length) = some 0 from by decide +kernel) ⟨(Nat.le_of_ble_eq_true rfl), (Nat.le_of_ble_eq_true rfl)⟩ 0 rfl rfl ((RC ra c9 f9 h9 a9 b9 (Pa 0) o9 ++ PW κ Pa Pr eo v tx) ++ VAW κ qa vv) (fun _ => (RC ra c9 f9 h9 a9 b9 (Pa 0) o9 ++ PW κ Pa Pr eo v tx) ++ (STW κ sa sv m9 h ++ VAW κ qa vv)) pm_rot (fun _ => pm_rot) rfl (Nat.le_of_ble_eq_true rfl) dL_type_12 ⟨Nat.le_of_ble_eq_true rfl, Nat.le_of_ble_eq_true rfl⟩ (fun _ _ => ?_)
  refine zn_icmp_ge C 102 dL_type_15 (by decide) (by omega) (by omega) (fun h1 => ?_) (fun h2 => ?_)
  · refine z_drop (w' := (RC ra c9 f9 h9 a9 b9 (Pa 0) o9 ++ PW κ Pa Pr eo v tx) ++ STW κ sa sv m9 h) (VAW κ qa vv) (List.Perm.of_eq (List.append_assoc _ _ _).symm) ?_
    refine z_aload_n C dL_type_102 1 rfl ?_
    refine z_callVc C (cX_ok adK adV) hX (mJ0_length_8abf5_s l D κ adK adV sa sv m9 h) gL_type_J0_length_8abf5 rfl rfl rfl (show yJ0_length_8abf5.cls = RJ0 ∧ yJ0_length_8abf5.cls ≠ "java/lang/invoke/MethodHandle" ∧ yJ0_length_8abf5.cls ≠ "java/lang/invoke/VarHandle" ∧ (parseMethodDescriptor yJ0_length_8abf5.desc).map (fun d => d.parameters.length) = some 0 from by decide +kernel) ⟨(Nat.le_of_ble_eq_true rfl), (Nat.le_of_ble_eq_true rfl)⟩ 0 rfl rfl (RC ra c9 f9 h9 a9 b9 (Pa 0) o9 ++ PW κ Pa Pr eo v tx) (fun _ => (RC ra c9 f9 h9 a9 b9 (Pa 0) o9 ++ PW κ Pa Pr eo v tx) ++ STW κ sa sv m9 h) List.perm_append_comm (fun _ => List.perm_append_comm) rfl (Nat.le_of_ble_eq_true rfl) dL_type_103 ⟨Nat.le_of_ble_eq_true rfl, Nat.le_of_ble_eq_true rfl⟩ (fun _ _ => ?_)
    exact z_iret C hr9 hk ((v, tx)) (rfl) (⟨by show v 1 ≤ 600; omega, by show m9 ≤ v 1; omega, fun j hj => htx j (by omega) hj⟩) (List.Perm.refl _) dL_type_106 (Nat.le_of_ble_eq_true rfl) (Nat.le_of_ble_eq_true rfl)
  · refine z_iconst (v := nI 0) C dL_type_18 (by decide) ?_
    refine z_istore C [(5, .int (nI 0)), (0, .ref (ra)), (1, .ref (sa)), (2, .int (nI n2)), (3, .ref (qa)), (4, .int (nI (20 * c9c)))] dL_type_19 (by decide) rfl ?_
    refine z_lv [1, 2, 3, 4, 5, 0] rfl ?_
    refine z_loop (σ := Nat × (Nat → Int32)) (fun x => (RC ra c9 f9 h9 a9 b9 (Pa 0) o9 ++ PW κ Pa Pr eo v tx) ++ (STW κ sa sv m9 h ++ VAW κ qa x.2)) (fun x => [(0, .ref (ra)), (1, .ref (sa)), (2, .int (nI n2)), (3, .ref (qa)), (4, .int (nI (20 * c9c))), (5, .int (nI x.1))]) (fun x => x.1 ≤ 20 ∧ ∀ i, i < 5 → x.2 i = pkV h m9 (20 * c9c) vv x.1 i) (fun x => 20 - x.1) ((0, vv)) (⟨by show 0 ≤ 20; omega, fun i _ => (pkV_0 h m9 (20 * c9c) vv i).symm⟩) rfl rfl ?_
    rintro ⟨q, v2⟩ hI21 ih21
    dsimp only at hI21 ih21 ⊢
    obtain ⟨hq, hvv⟩ := hI21
    refine z_iload C dL_type_21 5 rfl ?_
    refine z_bipush (v := nI 20) C dL_type_23 (by decide) ?_
    refine zn_icmp_ge C 76 dL_type_25 (by decide) (by omega) (by omega) (fun h3 => ?_) (fun h4 => ?_)
    · obtain rfl : q = 20 := by omega
      refine z_aload_n C dL_type_76 0 rfl ?_
      refine z_aload_n C dL_type_77 3 rfl ?_
      refine z_iconst (v := nI 0) C dL_type_78 (by decide) ?_
      refine z_iald C 5 0 rfl rfl (by omega) (by decide) dL_type_79 ?_
      refine z_aload_n C dL_type_80 3 rfl ?_
      refine z_iconst (v := nI 1) C dL_type_81 (by decide) ?_
      refine z_iald C 5 0 rfl rfl (by omega) (by decide) dL_type_82 ?_
      refine z_aload_n C dL_type_83 3 rfl ?_
      refine z_iconst (v := nI 2) C dL_type_84 (by decide) ?_
      refine z_iald C 5 0 rfl rfl (by omega) (by decide) dL_type_85 ?_
      refine z_aload_n C dL_type_86 3 rfl ?_
      refine z_iconst (v := nI 3) C dL_type_87 (by decide) ?_
      refine z_iald C 5 0 rfl rfl (by omega) (by decide) dL_type_88 ?_
      refine z_aload_n C dL_type_89 3 rfl ?_
      refine z_iconst (v := nI 4) C dL_type_90 (by decide) ?_
      refine z_iald C 5 0 rfl rfl (by omega) (by decide) dL_type_91 ?_
      refine z_callV C (mX5_append_ok l D κ Pa Pr ra c9 f9 h9 a9 b9 o9 eo v tx (v2 0) (v2 1) (v2 2) (v2 3) (v2 4) (by omega)) gL_type_X5_append rfl rfl rfl hdX5_append ⟨(Nat.le_of_ble_eq_true rfl), (Nat.le_of_ble_eq_true rfl)⟩ 0 rfl rfl (STW κ sa sv m9 h ++ VAW κ qa v2) (fun _ => (RC ra c9 f9 h9 a9 b9 (Pa 0) o9 ++ PW κ Pa Pr eo (upN v 1 (v 1 + 4 + 4 + 4 + 4 + 4)) (fdF (fdF (fdF (fdF (fdF tx (v 1) (v2 0)) (v 1 + 4) (v2 1)) (v 1 + 4 + 4) (v2 2)) (v 1 + 4 + 4 + 4) (v2 3)) (v 1 + 4 + 4 + 4 + 4) (v2 4))) ++ (STW κ sa sv m9 h ++ VAW κ qa v2)) (List.Perm.refl _) (fun _ => List.Perm.refl _) rfl (Nat.le_of_ble_eq_true rfl) dL_type_92 ⟨Nat.le_of_ble_eq_true rfl, Nat.le_of_ble_eq_true rfl⟩ (fun _ _ => ?_)
      refine z_istore_n C [(2, .int (nI (v 1 + 4 + 4 + 4 + 4 + 4))), (0, .ref (ra)), (1, .ref (sa)), (3, .ref (qa)), (4, .int (nI (20 * c9c))), (5, .int (nI 20))] dL_type_95 (by decide) rfl ?_
      refine zn_iinc (n := 20) C [(4, .int (nI ((20 * c9c) + 20))), (2, .int (nI (v 1 + 4 + 4 + 4 + 4 + 4))), (0, .ref (ra)), (1, .ref (sa)), (3, .ref (qa)), (5, .int (nI 20))] dL_type_96 4 rfl (by decide) rfl ?_
      refine z_goto (tgt := 9) C dL_type_99 (by decide) ?_
      refine z_lv [2, 3, 1, 4, 0] rfl ?_
      exact ih9 (c9c + 1, upN v 1 (v 1 + 4 + 4 + 4 + 4 + 4), fdF (fdF (fdF (fdF (fdF tx (v 1) (v2 0)) (v 1 + 4) (v2 1)) (v 1 + 4 + 4) (v2 2)) (v 1 + 4 + 4 + 4) (v2 3)) (v 1 + 4 + 4 + 4 + 4) (v2 4), v2, v 1 + 4 + 4 + 4 + 4 + 4) (⟨ty_v hv1, by show 20 * (c9c + 1) < m9 + 20; omega, ty_s h8 hv1 hvv htx⟩) (by show m9 + 20 - 20 * (c9c + 1) < m9 + 20 - 20 * c9c; omega)
    · refine z_aload_n C dL_type_28 3 rfl ?_
      refine z_iload C dL_type_29 5 rfl ?_
      refine z_iconst (v := nI 4) C dL_type_31 (by decide) ?_
      refine zn_idiv C dL_type_32 (by omega) (by omega) (by omega) ?_
      refine z_aload_n C dL_type_33 3 rfl ?_
      refine z_iload C dL_type_34 5 rfl ?_
      refine z_iconst (v := nI 4) C dL_type_36 (by decide) ?_
      refine zn_idiv C dL_type_37 (by omega) (by omega) (by omega) ?_
      refine z_iald C 5 0 rfl rfl (by omega) (by decide) dL_type_38 ?_
      refine z_bipush (v := nI 8) C dL_type_39 (by decide) ?_
      refine z_ishl C dL_type_41 ?_
      refine z_iload C dL_type_42 4 rfl ?_
      refine z_iload C dL_type_44 5 rfl ?_
      refine zn_iadd C dL_type_46 ?_
      refine z_aload_n C dL_type_47 1 rfl ?_
      refine z_callVc C (cX_ok adK adV) hX (mJ0_length_8abf5_s l D κ adK adV sa sv m9 h) gL_type_J0_length_8abf5 rfl rfl rfl (show yJ0_length_8abf5.cls = RJ0 ∧ yJ0_length_8abf5.cls ≠ "java/lang/invoke/MethodHandle" ∧ yJ0_length_8abf5.cls ≠ "java/lang/invoke/VarHandle" ∧ (parseMethodDescriptor yJ0_length_8abf5.desc).map (fun d => d.parameters.length) = some 0 from by decide +kernel) ⟨(Nat.le_of_ble_eq_true rfl), (Nat.le_of_ble_eq_true rfl)⟩ 0 rfl rfl ((RC ra c9 f9 h9 a9 b9 (Pa 0) o9 ++ PW κ Pa Pr eo v tx) ++ VAW κ qa v2) (fun _ => (RC ra c9 f9 h9 a9 b9 (Pa 0) o9 ++ PW κ Pa Pr eo v tx) ++ (STW κ sa sv m9 h ++ VAW κ qa v2)) pm_rot (fun _ => pm_rot) rfl (Nat.le_of_ble_eq_true rfl) dL_type_48 ⟨Nat.le_of_ble_eq_true rfl, Nat.le_of_ble_eq_true rfl⟩ (fun _ _ => ?_)
      refine zn_icmp_ge C 66 dL_type_51 (by decide) (by omega) (by omega) (fun h5 => ?_) (fun h6 => ?_)
      · refine z_bipush (v := nI 32) C dL_type_66 (by decide) ?_
        refine z_ior C dL_type_68 ?_
        refine z_iast C 5 0 rfl rfl (by omega) (by decide) dL_type_69 ((RC ra c9 f9 h9 a9 b9 (Pa 0) o9 ++ PW κ Pa Pr eo v tx) ++ (STW κ sa sv m9 h ++ VAW κ qa (upd v2 (q / 4) (((((v2 (q / 4))) <<< (nI 8 &&& 31)) ||| nI 32))))) rfl ?_
        refine zn_iinc (n := 1) C [(5, .int (nI (q + 1))), (0, .ref (ra)), (1, .ref (sa)), (2, .int (nI n2)), (3, .ref (qa)), (4, .int (nI (20 * c9c)))] dL_type_70 5 rfl (by decide) rfl ?_
        refine z_goto (tgt := 21) C dL_type_73 (by decide) ?_
        refine z_lv [1, 2, 3, 4, 5, 0] rfl ?_
        exact ih21 (q + 1, upd v2 (q / 4) (((((v2 (q / 4))) <<< (nI 8 &&& 31)) ||| nI 32))) (⟨by show q + 1 ≤ 20; omega, pkV_s hvv (by simp only [chF]; rw [if_neg (by omega)]) (by omega)⟩) (by show 20 - (q + 1) < 20 - q; omega)
      · refine z_aload_n C dL_type_54 1 rfl ?_
        refine z_iload C dL_type_55 4 rfl ?_
        refine z_iload C dL_type_57 5 rfl ?_
        refine zn_iadd C dL_type_59 ?_
        refine z_callVc C (cX_ok adK adV) hX (mJ0_charAt_5068e_s l D κ adK adV sa sv m9 h ((20 * c9c) + q) (by omega) (by omega) h8) gL_type_J0_charAt_5068e rfl rfl rfl (show yJ0_charAt_5068e.cls = RJ0 ∧ yJ0_charAt_5068e.cls ≠ "java/lang/invoke/MethodHandle" ∧ yJ0_charAt_5068e.cls ≠ "java/lang/invoke/VarHandle" ∧ (parseMethodDescriptor yJ0_charAt_5068e.desc).map (fun d => d.parameters.length) = some 1 from by decide +kernel) ⟨(Nat.le_of_ble_eq_true rfl), (Nat.le_of_ble_eq_true rfl)⟩ 0 rfl rfl ((RC ra c9 f9 h9 a9 b9 (Pa 0) o9 ++ PW κ Pa Pr eo v tx) ++ VAW κ qa v2) (fun _ => (RC ra c9 f9 h9 a9 b9 (Pa 0) o9 ++ PW κ Pa Pr eo v tx) ++ (STW κ sa sv m9 h ++ VAW κ qa v2)) pm_rot (fun _ => pm_rot) rfl (Nat.le_of_ble_eq_true rfl) dL_type_60 ⟨Nat.le_of_ble_eq_true rfl, Nat.le_of_ble_eq_true rfl⟩ (fun _ _ => ?_)
        refine z_goto (tgt := 68) C dL_type_63 (by decide) ?_
        refine z_ior C dL_type_68 ?_
        refine z_iast C 5 0 rfl rfl (by omega) (by decide) dL_type_69 ((RC ra c9 f9 h9 a9 b9 (Pa 0) o9 ++ PW κ Pa Pr eo v tx) ++ (STW κ sa sv m9 h ++ VAW κ qa (upd v2 (q / 4) (((((v2 (q / 4))) <<< (nI 8 &&& 31)) ||| nI (h ((20 * c9c) + q))))))) rfl ?_
        refine zn_iinc (n := 1) C [(5, .int (nI (q + 1))), (0, .ref (ra)), (1, .ref (sa)), (2, .int (nI n2)), (3, .ref (qa)), (4, .int (nI (20 * c9c)))] dL_type_70 5 rfl (by decide) rfl ?_
        refine z_goto (tgt := 21) C dL_type_73 (by decide) ?_
        refine z_lv [1, 2, 3, 4, 5, 0] rfl ?_
        exact ih21 (q + 1, upd v2 (q / 4) (((((v2 (q / 4))) <<< (nI 8 &&& 31)) ||| nI (h ((20 * c9c) + q))))) (⟨by show q + 1 ≤ 20; omega, pkV_s hvv (by simp only [chF]; rw [if_pos (by omega)]) (by omega)⟩) (by show 20 - (q + 1) < 20 - q; omega)
theorem hdL_type : yL_type.cls ≠ "java/lang/invoke/MethodHandle" ∧ yL_type.cls ≠ "java/lang/invoke/VarHandle" ∧ (parseMethodDescriptor yL_type.desc).map (fun d => d.parameters.length) = some 2 := by decide +kernel
set_option maxRecDepth 100000 in
set_option maxHeartbeats 8000000 in
theorem mL_load_ok (l : Launch) (D : va_G) (κ : Nat → ClassId) (adK adV : Nat → Nat) (Sa Ha Pa Pr : Nat → Nat) (hf : Nat → Option Nat) (ra f9 la lb o9 s1 s2 nx ct fa fb : Nat) (g gp : Nat → Nat → Nat) (eo : Int32) (v : Nat → Nat) (tx : Nat → Int32) (sa sv m9 : Nat) (h : Nat → Nat) (τ : Nat → Nat) (hv0 : v 1 = 0) (hm : m9 ≤ 300) (h8 : ∀ j, h j < 128) (hT : TU h m9 τ) : zH (cX adK adV) l yL_load wsL_load { frames := 9, cells := 1, slots := 5, locals := 194 } D (zTy κ) [.ref ra, .ref sa] ((SW κ Sa g ++ (RC ra (Sa 0) f9 (Ha 0) la lb (Pa 0) o9 ++ (HO κ Ha hf nx ct ++ (SO la s1 fa ++ (SO lb s2 fb ++ (SW κ Pr gp ++ PW κ Pa Pr eo v tx)))))) ++ STW κ sa sv m9 h) (S := ((Nat → Nat → Nat) × (Nat → Nat → Nat) × Int32 × (Nat → Nat)) × (Nat → Int32)) (fun _ => some (.int (nI (τ 1)))) (fun u => Rep u.1.1 τ ∧ Inv (20 + 1100 * m9) τ ∧ u.1.2.2.2 1 = 0) (fun u => (SW κ Sa u.1.1 ++ (RC ra (Sa 0) f9 (Ha 0) la lb (Pa 0) o9 ++ (HO κ Ha hf nx 0 ++ (SO la s1 0 ++ (SO lb s2 0 ++ (SW κ Pr u.1.2.1 ++ PW κ Pa Pr u.1.2.2.1 u.1.2.2.2 u.2)))))) ++ STW κ sa sv m9 h) 1 5 := by
  refine zH_of (cc := cL_load) (maxL := 4) (rt := some .int) (hh := [(6, 11, 12, 34), (6, 11, 16, 36)]) [(0, .ref ra), (1, .ref sa)] (by decide +kernel) rfl (Nat.le_of_ble_eq_true rfl) rfl ?_
  intro p e s m args below meth c A C hr9 hk htab hX
  have C : zC p s m args c cL_load 4 wsL_load RL D (zTy κ) A := C
  refine z_aload_n C dL_load_0 0 rfl ?_
  refine z_aload_n C dL_load_1 1 rfl ?_
  refine z_callSc C (cX_ok adK adV) hX (mL_type l D κ adK adV Pa Pr ra (Sa 0) f9 (Ha 0) la lb o9 eo v tx sa sv m9 h hv0 hm h8) gL_load_L_type rfl rfl rfl hdL_type ⟨(Nat.le_of_ble_eq_true rfl), (Nat.le_of_ble_eq_true rfl)⟩ (SW κ Sa g ++ (HO κ Ha hf nx ct ++ (SO la s1 fa ++ (SO lb s2 fb ++ SW κ Pr gp)))) (fun u => (SW κ Sa g ++ (RC ra (Sa 0) f9 (Ha 0) la lb (Pa 0) o9 ++ (HO κ Ha hf nx ct ++ (SO la s1 fa ++ (SO lb s2 fb ++ (SW κ Pr gp ++ PW κ Pa Pr eo u.1 u.2)))))) ++ STW κ sa sv m9 h) pmL (fun _ => pmL.symm) rfl (Nat.le_of_ble_eq_true rfl) dL_load_2 ⟨(Nat.le_of_ble_eq_true rfl), (Nat.le_of_ble_eq_true rfl)⟩ (fun w hw => ?_)
  refine z_istore_n C [(2, .int (nI m9)), (0, .ref ra), (1, .ref sa)] dL_load_5 (by decide) rfl ?_
  refine z_aload_n C dL_load_6 1 rfl ?_
  refine z_iload_n C dL_load_7 0 rfl ?_
  refine z_callVc C (cX_ok adK adV) hX (mX5_load_ok l D κ adK adV Sa Ha Pa Pr hf ra f9 la lb o9 s1 s2 nx ct fa fb g gp eo w.1 w.2 m9 τ hw.2.1 hw.1 (hT.fin (fun j hj => hw.2.2 j hj))) gL_load_X5_load rfl rfl rfl hdX5_load ⟨(Nat.le_of_ble_eq_true rfl), (Nat.le_of_ble_eq_true rfl)⟩ 13 rfl rfl (STW κ sa sv m9 h) (fun u => (SW κ Sa u.1 ++ (RC ra (Sa 0) f9 (Ha 0) la lb (Pa 0) o9 ++ (HO κ Ha hf nx 0 ++ (SO la s1 0 ++ (SO lb s2 0 ++ (SW κ Pr u.2.1 ++ PW κ Pa Pr u.2.2.1 u.2.2.2 w.2)))))) ++ STW κ sa sv m9 h) (List.Perm.refl _) (fun _ => List.Perm.refl _) rfl (Nat.le_of_ble_eq_true rfl) dL_load_8 ⟨(Nat.le_of_ble_eq_true rfl), (Nat.le_of_ble_eq_true rfl)⟩ (fun u hu => ?_)
  exact zh_iret C hr9 hk (u, w.2) rfl ⟨hu.1, hu.2.1, hu.2.2.2.2.1⟩ (List.Perm.refl _) dL_load_11 (Nat.le_of_ble_eq_true rfl) (Nat.le_of_ble_eq_true rfl)
theorem hdL_load : yL_load.cls ≠ "java/lang/invoke/MethodHandle" ∧ yL_load.cls ≠ "java/lang/invoke/VarHandle" ∧ (parseMethodDescriptor yL_load.desc).map (fun d => d.parameters.length) = some 2 := by decide +kernel
end LY
