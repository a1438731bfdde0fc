section ENT
/-- the literals' terms and their words -/
def stT (i : Nat) : Term := .string (sOwn.getD i "") (sIdx.getD i 0)
def stV (i : Nat) : Term := .field (stT i) "java/lang/String" "value" "[B"
def stW (i : Nat) : List Cond := [.exactly (stT i) "java/lang/String", .eq (.field (stT i) "java/lang/String" "coder" "B") (.int 0), .arrayOf (stV i) .byte, .eq (.length (stV i)) (.int (Int32.ofNat (sLen.getD i 0)))] ++ (List.range (sLen.getD i 0)).map (fun j => .eq (.elem (stV i) (.int (Int32.ofNat j))) (.int ((sByt.getD i []).getD j 0)))
set_option maxRecDepth 20000 in
theorem stq_0 : ((flatC narrow_1).drop 245).take 105 = stW 0 := by decide +kernel
set_option maxRecDepth 20000 in
theorem stq_1 : ((flatC narrow_1).drop 350).take 11 = stW 1 := by decide +kernel
set_option maxRecDepth 20000 in
theorem stq_2 : ((flatC narrow_1).drop 361).take 9 = stW 2 := by decide +kernel
set_option maxRecDepth 20000 in
theorem stq_3 : ((flatC narrow_1).drop 370).take 8 = stW 3 := by decide +kernel
set_option maxRecDepth 20000 in
theorem stq_4 : ((flatC narrow_1).drop 378).take 9 = stW 4 := by decide +kernel
set_option maxRecDepth 20000 in
theorem stq_5 : ((flatC narrow_1).drop 387).take 9 = stW 5 := by decide +kernel
set_option maxRecDepth 20000 in
theorem stq_6 : ((flatC narrow_1).drop 396).take 8 = stW 6 := by decide +kernel
set_option maxRecDepth 20000 in
theorem stq_7 : ((flatC narrow_1).drop 404).take 10 = stW 7 := by decide +kernel
set_option maxRecDepth 20000 in
theorem stq_8 : ((flatC narrow_1).drop 414).take 10 = stW 8 := by decide +kernel
set_option maxRecDepth 20000 in
theorem stq_9 : ((flatC narrow_1).drop 472).take 28 = stW 9 := by decide +kernel
set_option maxRecDepth 20000 in
theorem stq_10 : ((flatC narrow_1).drop 500).take 18 = stW 10 := by decide +kernel
set_option maxRecDepth 20000 in
theorem stq_11 : ((flatC narrow_1).drop 518).take 25 = stW 11 := by decide +kernel
set_option maxRecDepth 20000 in
theorem stq_12 : ((flatC narrow_1).drop 632).take 17 = stW 12 := by decide +kernel
set_option maxRecDepth 20000 in
theorem stq_13 : ((flatC narrow_1).drop 733).take 17 = stW 13 := by decide +kernel
set_option maxRecDepth 20000 in
theorem stq_14 : ((flatC narrow_1).drop 573).take 22 = stW 14 := by decide +kernel
set_option maxRecDepth 20000 in
theorem stq_15 : ((flatC narrow_1).drop 595).take 37 = stW 15 := by decide +kernel
set_option maxRecDepth 20000 in
theorem stq_16 : ((flatC narrow_1).drop 649).take 24 = stW 16 := by decide +kernel
set_option maxRecDepth 20000 in
theorem stq_17 : ((flatC narrow_1).drop 673).take 27 = stW 17 := by decide +kernel
set_option maxRecDepth 20000 in
theorem stq_18 : ((flatC narrow_1).drop 700).take 33 = stW 18 := by decide +kernel
set_option maxRecDepth 20000 in
theorem stq_19 : ((flatC narrow_1).drop 750).take 23 = stW 19 := by decide +kernel
set_option maxRecDepth 20000 in
theorem stq_20 : ((flatC narrow_1).drop 773).take 19 = stW 20 := by decide +kernel
set_option maxRecDepth 20000 in
theorem stq_21 : ((flatC narrow_1).drop 792).take 22 = stW 21 := by decide +kernel
set_option maxRecDepth 20000 in
theorem stq_22 : ((flatC narrow_1).drop 424).take 16 = stW 22 := by decide +kernel
set_option maxRecDepth 20000 in
theorem stq_23 : ((flatC narrow_1).drop 440).take 32 = stW 23 := by decide +kernel
set_option maxRecDepth 20000 in
theorem stq_24 : ((flatC narrow_1).drop 543).take 30 = stW 24 := by decide +kernel
set_option maxRecDepth 20000 in
theorem stq_25 : ((flatC narrow_1).drop 826).take 11 = stW 25 := by decide +kernel
set_option maxRecDepth 20000 in
theorem stq_26 : ((flatC narrow_1).drop 837).take 10 = stW 26 := by decide +kernel
set_option maxRecDepth 20000 in
theorem stq_27 : ((flatC narrow_1).drop 847).take 11 = stW 27 := by decide +kernel
theorem mem_dt {α : Type} {l w : List α} {a b : Nat} {x : α} (h : (l.drop a).take b = w) (hx : x ∈ w) : x ∈ l := List.mem_of_mem_drop (List.mem_of_mem_take (h ▸ hx))
theorem st_in (i : Nat) (hi : i < 28) {w : Cond} (h : w ∈ stW i) : w ∈ flatC narrow_1 := by
  match i, hi with
  | 0, _ => exact mem_dt stq_0 h
  | 1, _ => exact mem_dt stq_1 h
  | 2, _ => exact mem_dt stq_2 h
  | 3, _ => exact mem_dt stq_3 h
  | 4, _ => exact mem_dt stq_4 h
  | 5, _ => exact mem_dt stq_5 h
  | 6, _ => exact mem_dt stq_6 h
  | 7, _ => exact mem_dt stq_7 h
  | 8, _ => exact mem_dt stq_8 h
  | 9, _ => exact mem_dt stq_9 h
  | 10, _ => exact mem_dt stq_10 h
  | 11, _ => exact mem_dt stq_11 h
  | 12, _ => exact mem_dt stq_12 h
  | 13, _ => exact mem_dt stq_13 h
  | 14, _ => exact mem_dt stq_14 h
  | 15, _ => exact mem_dt stq_15 h
  | 16, _ => exact mem_dt stq_16 h
  | 17, _ => exact mem_dt stq_17 h
  | 18, _ => exact mem_dt stq_18 h
  | 19, _ => exact mem_dt stq_19 h
  | 20, _ => exact mem_dt stq_20 h
  | 21, _ => exact mem_dt stq_21 h
  | 22, _ => exact mem_dt stq_22 h
  | 23, _ => exact mem_dt stq_23 h
  | 24, _ => exact mem_dt stq_24 h
  | 25, _ => exact mem_dt stq_25 h
  | 26, _ => exact mem_dt stq_26 h
  | 27, _ => exact mem_dt stq_27 h
  | n + 28, hq => exact absurd hq (by omega)
end ENT
