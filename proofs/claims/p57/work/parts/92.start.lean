section START
set_option maxRecDepth 100000 in
set_option maxHeartbeats 8000000 in
theorem law_start {p : Program} {l : Launch} {e : Env} {s : State} {m : MethodId} {args : Array Value} {below : List Frame} {meth : Method} {c : Code} {D : va_G} {A : Nat → Prop} {Q : State → Prop} {sc L : Nat} {xs : Nat → Int32} {κ : Nat → ClassId} {adK adV : Nat → Nat} {dO dT : Nat} (C : zC p s m args c cL_law 11 wsL_law RL D (zTy κ) A) (hXc : wX adK adV dO dT A s s.heap) (hls : l.stackTraces = false) (hX : va_X sc L xs s s.heap) (hb0 : sc < s.heap.size) (hA0 : ¬ A sc) (hL : L ≤ 260)
    (KE : ∀ (ws : va_W) (lv : List (Nat × Value)) (c9 s9 : Nat), c9 ≤ 600086 → s9 ≤ 7301442 → zW p l e RML s m args below meth c 11 D A c9 s9 Q ws lv 384 [.int (nI 1)]) : zW p l e RML s m args below meth c 11 D A 0 0 Q [] [(0, .ref sc)] 0 [] := by
  refine z_new (ci := 5) C inlX5 tyX5 tyX5_ok (show Cond.classLink RL 19 RX5 ∈ wsL_law from by decide +kernel) (show Cond.instantiable RX5 7 ∈ wsL_law from by decide +kernel) (show Cond.initialized RX5 ∈ wsL_law from by decide +kernel) rfl (fs := [.null, .null, .null, .null, .null, .null, .null]) (fun j hj => by rcases (show j = 0 ∨ j = 1 ∨ j = 2 ∨ j = 3 ∨ j = 4 ∨ j = 5 ∨ j = 6 by omega) with rfl | rfl | rfl | rfl | rfl | rfl | rfl <;> rfl) (Nat.le_of_ble_eq_true rfl) (Nat.le_of_ble_eq_true rfl) dL_law_0 (fun ra => ?_)
  refine z_dup C dL_law_3 rfl ?_
  refine z_callIc C (aX_ok adK adV) hXc.1.1 (mX5_init l D κ adK adV ra) (fun _ => rfl) gL_law_X5_init rfl rfl rfl (by decide +kernel) (by decide +kernel) (by decide +kernel) rfl ⟨by decide +kernel, by decide +kernel, by decide +kernel⟩ ⟨(Nat.le_of_ble_eq_true rfl), (Nat.le_of_ble_eq_true rfl)⟩ [] (fun u => CWd κ ra (u.1 8 0) (u.1 8 1) u.1 u.2.1 u.2.2.1 u.2.2.2.1 g00 g00 g00 u.2.2.2.2.1 (fun _ => g00) 0 0 0 0 0 (fun _ => 0) (-1) u.2.2.2.2.2.1 u.2.2.2.2.2.2) (List.Perm.of_eq rfl) (fun u => List.Perm.of_eq (List.append_nil _)) rfl (Nat.le_of_ble_eq_true rfl) dL_law_4 ⟨(Nat.le_of_ble_eq_true rfl), (Nat.le_of_ble_eq_true rfl)⟩ (fun u hu => ?_)
  obtain ⟨hhf, hr, hv, h0, hv1, hv2⟩ := hu
  refine z_astore_n C [(1, .ref ra), (0, .ref sc)] dL_law_7 (by decide) rfl ?_
  refine z_iconst (v := nI 1) C dL_law_8 (by decide) ?_
  refine z_newa C (ty := .int) (by decide +kernel) rfl 0 rfl hu_int (N := 1) (a0 := (1, .inl (fun _ => 0))) (fun _ => rfl) (by decide) (by decide) (Nat.le_of_ble_eq_true rfl) (Nat.le_of_ble_eq_true rfl) dL_law_9 (fun rr => ?_)
  refine z_ws (ws' := RAW κ rr (fun _ => 0) ++ (CWd κ ra (u.1 8 0) (u.1 8 1) u.1 u.2.1 u.2.2.1 u.2.2.2.1 g00 g00 g00 u.2.2.2.2.1 (fun _ => g00) 0 0 0 0 0 (fun _ => 0) (-1) u.2.2.2.2.2.1 u.2.2.2.2.2.2)) List.perm_append_comm ?_
  refine z_dup C dL_law_11 rfl ?_
  refine z_iconst (v := nI 0) C dL_law_12 (by decide) ?_
  refine z_aload_n C dL_law_13 1 rfl ?_
  refine z_slen C hX hb0 hA0 dL_law_14 ?_
  refine z_cut (α := Int32) (fun _ => True) (fun _ => RAW κ rr (fun _ => 0) ++ (CWd κ ra (u.1 8 0) (u.1 8 1) u.1 u.2.1 u.2.2.1 u.2.2.2.1 g00 g00 g00 u.2.2.2.2.1 (fun _ => g00) 0 0 0 0 0 (fun _ => 0) (-1) u.2.2.2.2.2.1 u.2.2.2.2.2.2)) (fun _ => [(1, .ref ra), (0, .ref sc)]) (fun x => [.int x, .int (nI 0), .ref rr, .ref rr]) 27 (fun x _ => ?_) (fun cut27 => ?_)
  · refine z_iast C 0 0 rfl rfl (i := 0) (by decide) (by decide) dL_law_27 (RAW κ rr (upd (fun _ => 0) 0 x) ++ (CWd κ ra (u.1 8 0) (u.1 8 1) u.1 u.2.1 u.2.2.1 u.2.2.2.1 g00 g00 g00 u.2.2.2.2.1 (fun _ => g00) 0 0 0 0 0 (fun _ => 0) (-1) u.2.2.2.2.2.1 u.2.2.2.2.2.2)) rfl ?_
    refine z_ws (ws' := LWd κ ra (u.1 8 0) (u.1 8 1) u.1 u.2.1 u.2.2.1 rr u.2.2.2.1 g00 g00 g00 u.2.2.2.2.1 (fun _ => g00) 0 0 0 0 0 (fun _ => 0) (-1) u.2.2.2.2.2.1 u.2.2.2.2.2.2 (upd (fun _ => 0) 0 x)) (List.perm_append_comm.trans pl_0) ?_
    refine z_astore_n C [(2, .ref rr), (1, .ref ra), (0, .ref sc)] dL_law_28 (by decide) rfl ?_
    refine z_iconst (v := nI 1) C dL_law_29 (by decide) ?_
    refine z_istore_n C [(3, .int (nI 1)), (2, .ref rr), (1, .ref ra), (0, .ref sc)] dL_law_30 (by decide) rfl ?_
    refine z_iconst (v := nI 0) C dL_law_31 (by decide) ?_
    refine z_istore C [(4, .int (nI 0)), (3, .int (nI 1)), (2, .ref rr), (1, .ref ra), (0, .ref sc)] dL_law_32 (by decide) rfl ?_
    refine z_lv [4, 3, 2, 1, 0] rfl ?_
    exact z_wid (show _ ≤ 210 by decide) (show _ ≤ 3100 by decide) (law_loop (la := u.1 8 0) (lb := u.1 8 1) (ra := ra) (rr := rr) (AA := u.1) (no := 0) C hXc hls hX hb0 hA0 hhf hL hv1 (by decide) KE)
  · refine zn_if_ne C 24 dL_law_15 (by decide) (by omega) (fun h1 => ?_) (fun h1 => ?_)
    · refine z_aload_n C dL_law_24 1 rfl ?_
      refine z_iconst (v := nI 0) C dL_law_25 (by decide) ?_
      refine z_sld C hX hb0 hA0 (i := 0) (by omega) (by omega) rfl dL_law_26 ?_
      exact cut27 _ trivial
    · refine z_sipush (v := nI 1270) C dL_law_18 (by decide) ?_
      refine z_goto (tgt := 27) C dL_law_21 (by decide) ?_
      exact cut27 _ trivial
end START
