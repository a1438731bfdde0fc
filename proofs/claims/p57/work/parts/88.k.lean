section TK
theorem lo8 (x : Int32) (i : Nat) (hi : i < 8) : x.toInt8.toBitVec.getLsbD i = x.toBitVec.getLsbD i := by
  rw [Int32.toBitVec_toInt8, BitVec.signExtend_eq_setWidth_of_le _ (by decide), BitVec.getLsbD_setWidth]
  simp [hi]
theorem sr8 (x : Int32) (m : Nat) (s : Int32) (hs : s.toBitVec.smod 32 = BitVec.ofNat 32 m) (i : Nat) (hm : m + i < 32) : (x >>> s).toBitVec.getLsbD i = x.toBitVec.getLsbD (m + i) := by
  rw [Int32.toBitVec_shiftRight, BitVec.sshiftRight', BitVec.getLsbD_sshiftRight, hs, BitVec.toNat_ofNat, Nat.mod_eq_of_lt (show m < 2 ^ 32 by omega)]
  simp only [show ¬ 32 ≤ i by omega, decide_false, Bool.not_false, Bool.true_and]
  rw [if_pos hm]
theorem sl8 (x : Int32) (i : Nat) (hi : i < 32) : (x <<< (nI 8 &&& 31)).toBitVec.getLsbD i = (decide (8 ≤ i) && x.toBitVec.getLsbD (i - 8)) := by
  rw [Int32.toBitVec_shiftLeft, show (nI 8 &&& 31).toBitVec.smod 32 = BitVec.ofNat 32 8 by decide, BitVec.shiftLeft_eq', BitVec.getLsbD_shiftLeft, BitVec.toNat_ofNat]
  by_cases q : i < 8
  · simp [hi, q, show ¬ 8 ≤ i by omega]
  · simp [hi, q, show 8 ≤ i by omega]
theorem c8 {c : Nat} (hc : c < 128) (i : Nat) (hi : 8 ≤ i) : (nI c).toBitVec.getLsbD i = false := by
  show (BitVec.ofNat 32 c).getLsbD i = false
  rw [BitVec.getLsbD_ofNat, Nat.testBit_lt_two_pow (Nat.lt_of_lt_of_le hc (Nat.le_trans (by decide : 128 ≤ 2 ^ 8) (Nat.pow_le_pow_right (by decide) hi))), Bool.and_false]
/-- a byte pushed in from the right: it is the lowest -/
theorem by_0 (y : Int32) {c : Nat} (hc : c < 128) : ((y <<< (nI 8 &&& 31)) ||| nI c).toInt8.toInt32 = nI c := by
  have e : ((y <<< (nI 8 &&& 31)) ||| nI c).toInt8 = (nI c).toInt8 := by
    apply Int8.toBitVec_inj.mp
    apply BitVec.eq_of_getLsbD_eq
    intro i hi
    rw [lo8 _ i hi, lo8 _ i hi, Int32.toBitVec_or, BitVec.getLsbD_or, sl8 y i (by omega)]
    simp [show ¬ 8 ≤ i by omega]
  rw [e]
  exact ni_i2b hc
/-- the others move up -/
theorem by_s (y : Int32) {c : Nat} (hc : c < 128) (m : Nat) (s s' : Int32) (hs : s.toBitVec.smod 32 = BitVec.ofNat 32 (m + 8)) (hs' : s'.toBitVec.smod 32 = BitVec.ofNat 32 m) (hm : m + 16 ≤ 32) : (((y <<< (nI 8 &&& 31)) ||| nI c) >>> s).toInt8 = (y >>> s').toInt8 := by
  apply Int8.toBitVec_inj.mp
  apply BitVec.eq_of_getLsbD_eq
  intro i hi
  rw [lo8 _ i hi, lo8 _ i hi, sr8 _ _ _ hs i (by omega), sr8 _ _ _ hs' i (by omega), Int32.toBitVec_or, BitVec.getLsbD_or, sl8 y _ (by omega), c8 hc _ (by omega), Bool.or_false]
  simp [show 8 ≤ m + 8 + i by omega, show m + 8 + i - 8 = m + i by omega]
theorem sr_0 (y : Int32) : (y >>> (0 : Int32)).toInt8 = y.toInt8 := by
  apply Int8.toBitVec_inj.mp
  apply BitVec.eq_of_getLsbD_eq
  intro i hi
  rw [lo8 _ i hi, lo8 _ i hi, sr8 y 0 0 (by decide) i (by omega), Nat.zero_add]
/-- s letters pushed in -/
def pk4 (t : Nat → Nat) (x : Int32) : Nat → Int32
  | 0 => x
  | s + 1 => ((pk4 t x s) <<< (nI 8 &&& 31)) ||| nI (t s)
theorem pk4_b {t : Nat → Nat} {x : Int32} (h : ∀ s, t s < 128) : (pk4 t x 4 >>> (nI 24 &&& 31)).toInt8.toInt32 = nI (t 0) ∧ (pk4 t x 4 >>> (nI 16 &&& 31)).toInt8.toInt32 = nI (t 1) ∧ (pk4 t x 4 >>> (nI 8 &&& 31)).toInt8.toInt32 = nI (t 2) ∧ (pk4 t x 4).toInt8.toInt32 = nI (t 3) := by
  have a3 : (pk4 t x 4 >>> (nI 8 &&& 31)).toInt8 = (pk4 t x 3 >>> (0 : Int32)).toInt8 := by_s (pk4 t x 3) (h 3) 0 _ _ (by decide) (by decide) (by decide)
  have b3 : (pk4 t x 4 >>> (nI 16 &&& 31)).toInt8 = (pk4 t x 3 >>> (nI 8 &&& 31)).toInt8 := by_s (pk4 t x 3) (h 3) 8 _ _ (by decide) (by decide) (by decide)
  have c3 : (pk4 t x 4 >>> (nI 24 &&& 31)).toInt8 = (pk4 t x 3 >>> (nI 16 &&& 31)).toInt8 := by_s (pk4 t x 3) (h 3) 16 _ _ (by decide) (by decide) (by decide)
  have b2 : (pk4 t x 3 >>> (nI 8 &&& 31)).toInt8 = (pk4 t x 2 >>> (0 : Int32)).toInt8 := by_s (pk4 t x 2) (h 2) 0 _ _ (by decide) (by decide) (by decide)
  have c2 : (pk4 t x 3 >>> (nI 16 &&& 31)).toInt8 = (pk4 t x 2 >>> (nI 8 &&& 31)).toInt8 := by_s (pk4 t x 2) (h 2) 8 _ _ (by decide) (by decide) (by decide)
  have c1 : (pk4 t x 2 >>> (nI 8 &&& 31)).toInt8 = (pk4 t x 1 >>> (0 : Int32)).toInt8 := by_s (pk4 t x 1) (h 1) 0 _ _ (by decide) (by decide) (by decide)
  refine ⟨?_, ?_, ?_, ?_⟩
  · rw [c3, c2, c1, sr_0]
    exact by_0 x (h 0)
  · rw [b3, b2, sr_0]
    exact by_0 (pk4 t x 1) (h 1)
  · rw [a3, sr_0]
    exact by_0 (pk4 t x 2) (h 2)
  · exact by_0 (pk4 t x 3) (h 3)
/-- the text's letters, and blanks behind it -/
def chF (h : Nat → Nat) (m p : Nat) : Nat := if p < m then h p else 32
theorem chF_8 {h : Nat → Nat} {m : Nat} (h8 : ∀ j, h j < 128) (p : Nat) : chF h m p < 128 := by
  simp only [chF]
  split
  · exact h8 p
  · decide
/-- five numbers, q letters pushed in, four to each -/
def pkV (h : Nat → Nat) (m k : Nat) (old : Nat → Int32) (q i : Nat) : Int32 := pk4 (fun s => chF h m (k + 4 * i + s)) (old i) (if 4 ≤ q - 4 * i then 4 else q - 4 * i)
theorem pkV_0 (h : Nat → Nat) (m k : Nat) (old : Nat → Int32) (i : Nat) : pkV h m k old 0 i = old i := by
  simp only [pkV]
  rw [if_neg (by omega), show 0 - 4 * i = 0 by omega]
  rfl
theorem pkV_s {h : Nat → Nat} {m k : Nat} {old vv : Nat → Int32} {q x : Nat} (hv : ∀ i, i < 5 → vv i = pkV h m k old q i) (hx : x = chF h m (k + q)) (hq : q < 20) : ∀ i, i < 5 → upd vv (q / 4) ((vv (q / 4) <<< (nI 8 &&& 31)) ||| nI x) i = pkV h m k old (q + 1) i := by
  intro i hi
  show (if i = q / 4 then (vv (q / 4) <<< (nI 8 &&& 31)) ||| nI x else vv i) = _
  split
  · rename_i e
    subst e
    rw [hv (q / 4) (by omega), hx]
    simp only [pkV]
    rw [if_neg (by omega)]
    by_cases z : 4 ≤ q + 1 - 4 * (q / 4)
    · rw [if_pos z, show q - 4 * (q / 4) = 3 by omega]
      show _ = ((pk4 _ (old (q / 4)) 3) <<< (nI 8 &&& 31)) ||| nI (chF h m (k + 4 * (q / 4) + 3))
      rw [show k + 4 * (q / 4) + 3 = k + q by omega]
    · rw [if_neg z, show q + 1 - 4 * (q / 4) = (q - 4 * (q / 4)) + 1 by omega]
      show _ = ((pk4 _ (old (q / 4)) (q - 4 * (q / 4))) <<< (nI 8 &&& 31)) ||| nI (chF h m (k + 4 * (q / 4) + (q - 4 * (q / 4))))
      rw [show k + 4 * (q / 4) + (q - 4 * (q / 4)) = k + q by omega]
  · rename_i e
    rw [hv i hi]
    simp only [pkV]
    by_cases z : 4 ≤ q - 4 * i
    · rw [if_pos z, if_pos (by omega)]
    · rw [if_neg z, if_neg (by omega), show q - 4 * i = q + 1 - 4 * i by omega]
theorem pkV_20 {h : Nat → Nat} {m k : Nat} {old vv : Nat → Int32} (hv : ∀ i, i < 5 → vv i = pkV h m k old 20 i) {i : Nat} (hi : i < 5) : vv i = pk4 (fun s => chF h m (k + 4 * i + s)) (old i) 4 := by
  rw [hv i hi]
  simp only [pkV]
  rw [if_pos (by omega)]
/-- four letters laid into the buffer -/
theorem fd_pk {tx : Nat → Int32} {t : Nat → Nat} {x : Int32} {p : Nat} (h : ∀ s, t s < 128) (j : Nat) : fdF tx p (pk4 t x 4) j = if p ≤ j ∧ j < p + 4 then nI (t (j - p)) else tx j := by
  obtain ⟨b0, b1, b2, b3⟩ := pk4_b (x := x) h
  simp only [fdF, upd]
  by_cases q3 : j = p + 3
  · rw [if_pos q3, if_pos (by omega), b3, show j - p = 3 by omega]
  rw [if_neg q3]
  by_cases q2 : j = p + 2
  · rw [if_pos q2, if_pos (by omega), b2, show j - p = 2 by omega]
  rw [if_neg q2]
  by_cases q1 : j = p + 1
  · rw [if_pos q1, if_pos (by omega), b1, show j - p = 1 by omega]
  rw [if_neg q1]
  by_cases q0 : j = p
  · rw [if_pos q0, if_pos (by omega), b0, show j - p = 0 by omega]
  · rw [if_neg q0, if_neg (by omega)]
/-- twenty letters laid into the buffer -/
theorem fd_20 {h : Nat → Nat} {m k : Nat} {old vv : Nat → Int32} {tx : Nat → Int32} (h8 : ∀ j, h j < 128) (hv : ∀ i, i < 5 → vv i = pkV h m k old 20 i) (j : Nat) (hj : j < k + 20) : fdF (fdF (fdF (fdF (fdF tx k (vv 0)) (k + 4) (vv 1)) (k + 4 + 4) (vv 2)) (k + 4 + 4 + 4) (vv 3)) (k + 4 + 4 + 4 + 4) (vv 4) j = if k ≤ j then nI (chF h m j) else tx j := by
  have h9 : ∀ i s, chF h m (k + 4 * i + s) < 128 := fun i s => chF_8 h8 _
  rw [pkV_20 hv (i := 0) (by decide), pkV_20 hv (i := 1) (by decide), pkV_20 hv (i := 2) (by decide), pkV_20 hv (i := 3) (by decide), pkV_20 hv (i := 4) (by decide)]
  rw [fd_pk (h9 4), fd_pk (h9 3), fd_pk (h9 2), fd_pk (h9 1), fd_pk (h9 0)]
  by_cases q4 : k + 4 + 4 + 4 + 4 ≤ j
  · rw [if_pos ⟨q4, by omega⟩, if_pos (by omega)]
    congr 2
    omega
  rw [if_neg (fun z => q4 z.1)]
  by_cases q3 : k + 4 + 4 + 4 ≤ j
  · rw [if_pos ⟨q3, by omega⟩, if_pos (by omega)]
    congr 2
    omega
  rw [if_neg (fun z => q3 z.1)]
  by_cases q2 : k + 4 + 4 ≤ j
  · rw [if_pos ⟨q2, by omega⟩, if_pos (by omega)]
    congr 2
    omega
  rw [if_neg (fun z => q2 z.1)]
  by_cases q1 : k + 4 ≤ j
  · rw [if_pos ⟨q1, by omega⟩, if_pos (by omega)]
    congr 2
    omega
  rw [if_neg (fun z => q1 z.1)]
  by_cases q0 : k ≤ j
  · rw [if_pos ⟨q0, by omega⟩, if_pos q0]
    congr 2
    omega
  · rw [if_neg (fun z => q0 z.1), if_neg q0]
end TK
