section X5
theorem nt32 : FP.Core.Fmt.tails FP.Core.b32 = 8388608 := by decide
theorem ne32 : FP.Core.Fmt.exps FP.Core.b32 = 256 := by decide
theorem nq32 : FP.Core.Fmt.qmin FP.Core.b32 = (-149) := by decide
theorem nx32 : FP.Core.Fmt.qmax FP.Core.b32 = 104 := by decide
theorem np32 : 2 ^ FP.Core.b32.p = 16777216 := by decide
def nb32 (n : Nat) : Prop := n % 2147483648 ≤ 2139095040
theorem nb32_fin {s : Bool} {c : Nat} {q : Int} (hc : c < 16777216) (hq : q ≤ 104) : nb32 (FP.Core.encode FP.Core.b32 (.fin s c q)) := by
  simp only [nb32, FP.Core.encode, FP.Core.assemble, nt32, ne32, nq32]
  cases s <;> split <;> simp only [Bool.toNat_false, Bool.toNat_true] <;> omega
theorem nb32_inf {s : Bool} : nb32 (FP.Core.encode FP.Core.b32 (.inf s)) := by
  simp only [nb32, FP.Core.encode, FP.Core.assemble, nt32, ne32]
  cases s <;> simp only [Bool.toNat_false, Bool.toNat_true] <;> omega
theorem nb32_bound {s : Bool} {c : Nat} {q : Int} (hc : c < 16777216) : nb32 (FP.Core.encode FP.Core.b32 (FP.Core.bound FP.Core.b32 s c q)) := by
  unfold FP.Core.bound
  split
  · rename_i h
    rw [nx32] at h
    exact nb32_fin hc h
  · exact nb32_inf
theorem nb32_settle {s : Bool} {c : Nat} {q : Int} : nb32 (FP.Core.encode FP.Core.b32 (FP.Core.settle FP.Core.b32 s c q)) := by
  unfold FP.Core.settle
  split
  · rename_i h
    rw [np32] at h
    exact nb32_bound h
  · rw [nt32]
    exact nb32_bound (by omega)
theorem nb32_ratio {s : Bool} {A B : Nat} {e : Int} : nb32 (FP.Core.encode FP.Core.b32 (FP.Core.roundRatio FP.Core.b32 s A B e)) := by
  unfold FP.Core.roundRatio
  split
  · rw [nq32]
    exact nb32_fin (by omega) (by omega)
  · exact nb32_settle
theorem nb32_round {d : FP.Core.Datum} (h : d ≠ .nan) : nb32 (FP.Core.encode FP.Core.b32 (FP.Core.round FP.Core.b32 d)) := by
  cases d with
  | nan => exact absurd rfl h
  | inf s => exact nb32_inf
  | fin s c q => exact nb32_ratio
theorem nd32 {n : Nat} (h : nb32 n) : FP.Core.decode FP.Core.b32 n ≠ .nan := by
  simp only [nb32] at h
  simp only [FP.Core.decode, FP.Core.fieldE, FP.Core.fieldT, nt32, ne32]
  split
  · rw [if_pos (by omega)]
    exact fun z => FP.Core.Datum.noConfusion z
  · split <;> exact fun z => FP.Core.Datum.noConfusion z
theorem nb32_of {m : Nat} (h : nb32 m) : nb32 (UInt32.ofNat m).toNat := by
  rw [UInt32.toNat_ofNat']
  simp only [nb32] at h ⊢
  omega
theorem nv32 {a : UInt32} (h : nb32 a.toNat) : vf_n32 a := by
  show a &&& 0x7fffffff ≤ 0x7f800000
  rw [UInt32.le_iff_toNat_le, UInt32.toNat_and]
  have h2 : a.toNat &&& 2147483647 = a.toNat % 2 ^ 31 := Nat.and_two_pow_sub_one_eq_mod a.toNat 31
  show a.toNat &&& 2147483647 ≤ 2139095040
  rw [h2]
  exact h
/-- a denominator other than 0 -/
theorem nf32 {s : Bool} {c : Nat} {q : Int} (h1 : 1 ≤ c) (hc : c < 16777216) (hq : q ≤ 104) : ∃ t d r, FP.Core.decode FP.Core.b32 (FP.Core.encode FP.Core.b32 (.fin s c q) % 4294967296) = .fin t d r ∧ d ≠ 0 := by
  simp only [FP.Core.encode, FP.Core.assemble, nt32, ne32, nq32]
  by_cases h : c < 8388608
  · rw [if_pos h]
    simp only [FP.Core.decode, FP.Core.fieldE, FP.Core.fieldT, nt32, ne32]
    have e1 : ((s.toNat * 256 + 0) * 8388608 + c) % 4294967296 / 8388608 % 256 = 0 := by cases s <;> simp only [Bool.toNat_false, Bool.toNat_true] <;> omega
    have e2 : ((s.toNat * 256 + 0) * 8388608 + c) % 4294967296 % 8388608 = c := by cases s <;> simp only [Bool.toNat_false, Bool.toNat_true] <;> omega
    rw [e1, e2, if_neg (by omega), if_pos rfl]
    exact ⟨_, _, _, rfl, by omega⟩
  · rw [if_neg h]
    generalize hE : (q - (-149)).toNat + 1 = E
    have hE1 : 1 ≤ E ∧ E ≤ 254 := by omega
    simp only [FP.Core.decode, FP.Core.fieldE, FP.Core.fieldT, nt32, ne32]
    have e1 : ((s.toNat * 256 + E) * 8388608 + (c - 8388608)) % 4294967296 / 8388608 % 256 = E := by cases s <;> simp only [Bool.toNat_false, Bool.toNat_true] <;> omega
    rw [e1, if_neg (by omega), if_neg (by omega)]
    exact ⟨_, _, _, rfl, by omega⟩
theorem nz32 {num : Nat} (h0 : 0 < num) (h1 : num < 2147483648) : ∃ c q, FP.Core.roundRatio FP.Core.b32 false num 1 0 = .fin false c q ∧ 1 ≤ c ∧ c < 16777216 ∧ q ≤ 104 := by
  have hl : num.log2 < 31 := (Nat.log2_lt (by omega)).mpr h1
  have hp2 : 2 ^ num.log2 ≤ num := Nat.log2_self_le (by omega)
  have hld : FP.Core.leading num 1 ≤ num.log2 := by
    unfold FP.Core.leading
    have e0 : Nat.log2 1 = 0 := by decide
    dsimp only
    rw [e0]
    split <;> omega
  have hq : ∃ q, FP.Core.quantum FP.Core.b32 num 1 0 = q ∧ q ≤ 30 ∧ (0 < q → q.toNat ≤ num.log2) := by
    refine ⟨_, rfl, ?_, ?_⟩
    · unfold FP.Core.quantum
      rw [nq32]
      have : (FP.Core.b32.p : Int) = 24 := rfl
      omega
    · unfold FP.Core.quantum
      rw [nq32]
      have : (FP.Core.b32.p : Int) = 24 := rfl
      omega
  obtain ⟨q, hq0, hq1, hq2⟩ := hq
  unfold FP.Core.roundRatio
  rw [if_neg (by omega), hq0]
  unfold FP.Core.roundAt
  have hd : 0 < FP.Core.unitsDen 1 0 q ∧ FP.Core.unitsDen 1 0 q ≤ FP.Core.unitsNum num 0 q := by
    unfold FP.Core.unitsDen FP.Core.unitsNum
    rw [Nat.one_mul]
    refine ⟨Nat.two_pow_pos _, ?_⟩
    rcases Int.lt_or_le 0 q with hp | hp
    · rw [show (q - 0).toNat = q.toNat by omega, show (0 - q).toNat = 0 by omega, Nat.pow_zero, Nat.mul_one]
      exact Nat.le_trans (Nat.pow_le_pow_right (by decide) (hq2 hp)) hp2
    · rw [show (q - 0).toNat = 0 by omega, Nat.pow_zero]
      exact Nat.mul_pos h0 (Nat.two_pow_pos _)
  have hn : 1 ≤ FP.Core.nearest (FP.Core.unitsNum num 0 q) (FP.Core.unitsDen 1 0 q) := by
    have h9 : 1 ≤ FP.Core.unitsNum num 0 q / FP.Core.unitsDen 1 0 q := (Nat.one_le_div_iff hd.1).mpr hd.2
    unfold FP.Core.nearest
    split
    · exact h9
    · split <;> omega
  generalize FP.Core.nearest (FP.Core.unitsNum num 0 q) (FP.Core.unitsDen 1 0 q) = c at hn ⊢
  unfold FP.Core.settle FP.Core.bound
  rw [nx32, np32, nt32]
  by_cases h : c < 16777216
  · rw [if_pos h, if_pos (by omega)]
    exact ⟨c, q, rfl, hn, h, by omega⟩
  · rw [if_neg h, if_pos (by omega)]
    exact ⟨8388608, q + 1, rfl, by omega, by omega, by omega⟩
theorem nt64 : FP.Core.Fmt.tails FP.Core.b64 = 4503599627370496 := by decide
theorem ne64 : FP.Core.Fmt.exps FP.Core.b64 = 2048 := by decide
theorem nq64 : FP.Core.Fmt.qmin FP.Core.b64 = (-1074) := by decide
theorem nx64 : FP.Core.Fmt.qmax FP.Core.b64 = 971 := by decide
theorem np64 : 2 ^ FP.Core.b64.p = 9007199254740992 := by decide
def nb64 (n : Nat) : Prop := n % 9223372036854775808 ≤ 9218868437227405312
theorem nb64_fin {s : Bool} {c : Nat} {q : Int} (hc : c < 9007199254740992) (hq : q ≤ 971) : nb64 (FP.Core.encode FP.Core.b64 (.fin s c q)) := by
  simp only [nb64, FP.Core.encode, FP.Core.assemble, nt64, ne64, nq64]
  cases s <;> split <;> simp only [Bool.toNat_false, Bool.toNat_true] <;> omega
theorem nb64_inf {s : Bool} : nb64 (FP.Core.encode FP.Core.b64 (.inf s)) := by
  simp only [nb64, FP.Core.encode, FP.Core.assemble, nt64, ne64]
  cases s <;> simp only [Bool.toNat_false, Bool.toNat_true] <;> omega
theorem nb64_bound {s : Bool} {c : Nat} {q : Int} (hc : c < 9007199254740992) : nb64 (FP.Core.encode FP.Core.b64 (FP.Core.bound FP.Core.b64 s c q)) := by
  unfold FP.Core.bound
  split
  · rename_i h
    rw [nx64] at h
    exact nb64_fin hc h
  · exact nb64_inf
theorem nb64_settle {s : Bool} {c : Nat} {q : Int} : nb64 (FP.Core.encode FP.Core.b64 (FP.Core.settle FP.Core.b64 s c q)) := by
  unfold FP.Core.settle
  split
  · rename_i h
    rw [np64] at h
    exact nb64_bound h
  · rw [nt64]
    exact nb64_bound (by omega)
theorem nb64_ratio {s : Bool} {A B : Nat} {e : Int} : nb64 (FP.Core.encode FP.Core.b64 (FP.Core.roundRatio FP.Core.b64 s A B e)) := by
  unfold FP.Core.roundRatio
  split
  · rw [nq64]
    exact nb64_fin (by omega) (by omega)
  · exact nb64_settle
theorem nb64_round {d : FP.Core.Datum} (h : d ≠ .nan) : nb64 (FP.Core.encode FP.Core.b64 (FP.Core.round FP.Core.b64 d)) := by
  cases d with
  | nan => exact absurd rfl h
  | inf s => exact nb64_inf
  | fin s c q => exact nb64_ratio
theorem nd64 {n : Nat} (h : nb64 n) : FP.Core.decode FP.Core.b64 n ≠ .nan := by
  simp only [nb64] at h
  simp only [FP.Core.decode, FP.Core.fieldE, FP.Core.fieldT, nt64, ne64]
  split
  · rw [if_pos (by omega)]
    exact fun z => FP.Core.Datum.noConfusion z
  · split <;> exact fun z => FP.Core.Datum.noConfusion z
theorem nb64_of {m : Nat} (h : nb64 m) : nb64 (UInt64.ofNat m).toNat := by
  rw [UInt64.toNat_ofNat']
  simp only [nb64] at h ⊢
  omega
theorem nv64 {a : UInt64} (h : nb64 a.toNat) : vf_n64 a := by
  show a &&& 0x7fffffffffffffff ≤ 0x7ff0000000000000
  rw [UInt64.le_iff_toNat_le, UInt64.toNat_and]
  have h2 : a.toNat &&& 9223372036854775807 = a.toNat % 2 ^ 63 := Nat.and_two_pow_sub_one_eq_mod a.toNat 63
  show a.toNat &&& 9223372036854775807 ≤ 9218868437227405312
  rw [h2]
  exact h
/-- a denominator other than 0 -/
theorem nf64 {s : Bool} {c : Nat} {q : Int} (h1 : 1 ≤ c) (hc : c < 9007199254740992) (hq : q ≤ 971) : ∃ t d r, FP.Core.decode FP.Core.b64 (FP.Core.encode FP.Core.b64 (.fin s c q) % 18446744073709551616) = .fin t d r ∧ d ≠ 0 := by
  simp only [FP.Core.encode, FP.Core.assemble, nt64, ne64, nq64]
  by_cases h : c < 4503599627370496
  · rw [if_pos h]
    simp only [FP.Core.decode, FP.Core.fieldE, FP.Core.fieldT, nt64, ne64]
    have e1 : ((s.toNat * 2048 + 0) * 4503599627370496 + c) % 18446744073709551616 / 4503599627370496 % 2048 = 0 := by cases s <;> simp only [Bool.toNat_false, Bool.toNat_true] <;> omega
    have e2 : ((s.toNat * 2048 + 0) * 4503599627370496 + c) % 18446744073709551616 % 4503599627370496 = c := by cases s <;> simp only [Bool.toNat_false, Bool.toNat_true] <;> omega
    rw [e1, e2, if_neg (by omega), if_pos rfl]
    exact ⟨_, _, _, rfl, by omega⟩
  · rw [if_neg h]
    generalize hE : (q - (-1074)).toNat + 1 = E
    have hE1 : 1 ≤ E ∧ E ≤ 2046 := by omega
    simp only [FP.Core.decode, FP.Core.fieldE, FP.Core.fieldT, nt64, ne64]
    have e1 : ((s.toNat * 2048 + E) * 4503599627370496 + (c - 4503599627370496)) % 18446744073709551616 / 4503599627370496 % 2048 = E := by cases s <;> simp only [Bool.toNat_false, Bool.toNat_true] <;> omega
    rw [e1, if_neg (by omega), if_neg (by omega)]
    exact ⟨_, _, _, rfl, by omega⟩
theorem nz64 {num : Nat} (h0 : 0 < num) (h1 : num < 2147483648) : ∃ c q, FP.Core.roundRatio FP.Core.b64 false num 1 0 = .fin false c q ∧ 1 ≤ c ∧ c < 9007199254740992 ∧ q ≤ 971 := by
  have hl : num.log2 < 31 := (Nat.log2_lt (by omega)).mpr h1
  have hp2 : 2 ^ num.log2 ≤ num := Nat.log2_self_le (by omega)
  have hld : FP.Core.leading num 1 ≤ num.log2 := by
    unfold FP.Core.leading
    have e0 : Nat.log2 1 = 0 := by decide
    dsimp only
    rw [e0]
    split <;> omega
  have hq : ∃ q, FP.Core.quantum FP.Core.b64 num 1 0 = q ∧ q ≤ 30 ∧ (0 < q → q.toNat ≤ num.log2) := by
    refine ⟨_, rfl, ?_, ?_⟩
    · unfold FP.Core.quantum
      rw [nq64]
      have : (FP.Core.b64.p : Int) = 53 := rfl
      omega
    · unfold FP.Core.quantum
      rw [nq64]
      have : (FP.Core.b64.p : Int) = 53 := rfl
      omega
  obtain ⟨q, hq0, hq1, hq2⟩ := hq
  unfold FP.Core.roundRatio
  rw [if_neg (by omega), hq0]
  unfold FP.Core.roundAt
  have hd : 0 < FP.Core.unitsDen 1 0 q ∧ FP.Core.unitsDen 1 0 q ≤ FP.Core.unitsNum num 0 q := by
    unfold FP.Core.unitsDen FP.Core.unitsNum
    rw [Nat.one_mul]
    refine ⟨Nat.two_pow_pos _, ?_⟩
    rcases Int.lt_or_le 0 q with hp | hp
    · rw [show (q - 0).toNat = q.toNat by omega, show (0 - q).toNat = 0 by omega, Nat.pow_zero, Nat.mul_one]
      exact Nat.le_trans (Nat.pow_le_pow_right (by decide) (hq2 hp)) hp2
    · rw [show (q - 0).toNat = 0 by omega, Nat.pow_zero]
      exact Nat.mul_pos h0 (Nat.two_pow_pos _)
  have hn : 1 ≤ FP.Core.nearest (FP.Core.unitsNum num 0 q) (FP.Core.unitsDen 1 0 q) := by
    have h9 : 1 ≤ FP.Core.unitsNum num 0 q / FP.Core.unitsDen 1 0 q := (Nat.one_le_div_iff hd.1).mpr hd.2
    unfold FP.Core.nearest
    split
    · exact h9
    · split <;> omega
  generalize FP.Core.nearest (FP.Core.unitsNum num 0 q) (FP.Core.unitsDen 1 0 q) = c at hn ⊢
  unfold FP.Core.settle FP.Core.bound
  rw [nx64, np64, nt64]
  by_cases h : c < 9007199254740992
  · rw [if_pos h, if_pos (by omega)]
    exact ⟨c, q, rfl, hn, h, by omega⟩
  · rw [if_neg h, if_pos (by omega)]
    exact ⟨4503599627370496, q + 1, rfl, by omega, by omega, by omega⟩
theorem i2f_nn (v : Int32) : nb32 (FP.i2f v).toNat := nb32_of (nb32_round (fun z => FP.Core.Datum.noConfusion z))
theorem i2f_dn {k : Nat} (h0 : 0 < k) (h1 : k < 2147483648) : ∃ t d r, FP.Core.decode FP.Core.b32 (FP.i2f (nI k)).toNat = .fin t d r ∧ d ≠ 0 := by
  obtain ⟨c, q, e1, e2, e3, e4⟩ := nz32 h0 h1
  have e5 : (FP.i2f (nI k)).toNat = FP.Core.encode FP.Core.b32 (.fin false c q) % 4294967296 := by
    show (UInt32.ofNat (FP.Core.encode FP.Core.b32 (FP.Core.round FP.Core.b32 (FP.Core.ofInt (nI k).toInt)))).toNat = _
    rw [UInt32.toNat_ofNat', nI_toInt h1]
    have e6 : FP.Core.round FP.Core.b32 (FP.Core.ofInt (k : Int)) = .fin false c q := by
      unfold FP.Core.ofInt
      rw [decide_eq_false (by omega), Int.natAbs_natCast]
      exact e1
    rw [e6]
  rw [e5]
  exact nf32 e2 e3 e4
theorem fdiv_nn {a : Int32} {k : Nat} (h0 : 0 < k) (h1 : k < 2147483648) : nb32 (FP.fdiv (FP.i2f a) (FP.i2f (nI k))).toNat := by
  obtain ⟨t, d, r, e1, e2⟩ := i2f_dn h0 h1
  have e3 := nd32 (i2f_nn a)
  refine nb32_of ?_
  show nb32 (FP.Core.encode FP.Core.b32 (FP.Core.quotient FP.Core.b32 (FP.Core.decode FP.Core.b32 (FP.i2f a).toNat) (FP.Core.decode FP.Core.b32 (FP.i2f (nI k)).toNat)))
  rw [e1]
  generalize FP.Core.decode FP.Core.b32 (FP.i2f a).toNat = X at e3
  cases X with
  | nan => exact absurd rfl e3
  | inf s => exact nb32_inf
  | fin s c q =>
    simp only [FP.Core.quotient]
    rw [if_neg e2]
    exact nb32_ratio
theorem i2d_nn (v : Int32) : nb64 (FP.i2d v).toNat := nb64_of (nb64_round (fun z => FP.Core.Datum.noConfusion z))
theorem i2d_dn {k : Nat} (h0 : 0 < k) (h1 : k < 2147483648) : ∃ t d r, FP.Core.decode FP.Core.b64 (FP.i2d (nI k)).toNat = .fin t d r ∧ d ≠ 0 := by
  obtain ⟨c, q, e1, e2, e3, e4⟩ := nz64 h0 h1
  have e5 : (FP.i2d (nI k)).toNat = FP.Core.encode FP.Core.b64 (.fin false c q) % 18446744073709551616 := by
    show (UInt64.ofNat (FP.Core.encode FP.Core.b64 (FP.Core.round FP.Core.b64 (FP.Core.ofInt (nI k).toInt)))).toNat = _
    rw [UInt64.toNat_ofNat', nI_toInt h1]
    have e6 : FP.Core.round FP.Core.b64 (FP.Core.ofInt (k : Int)) = .fin false c q := by
      unfold FP.Core.ofInt
      rw [decide_eq_false (by omega), Int.natAbs_natCast]
      exact e1
    rw [e6]
  rw [e5]
  exact nf64 e2 e3 e4
theorem ddiv_nn {a : Int32} {k : Nat} (h0 : 0 < k) (h1 : k < 2147483648) : nb64 (FP.ddiv (FP.i2d a) (FP.i2d (nI k))).toNat := by
  obtain ⟨t, d, r, e1, e2⟩ := i2d_dn h0 h1
  have e3 := nd64 (i2d_nn a)
  refine nb64_of ?_
  show nb64 (FP.Core.encode FP.Core.b64 (FP.Core.quotient FP.Core.b64 (FP.Core.decode FP.Core.b64 (FP.i2d a).toNat) (FP.Core.decode FP.Core.b64 (FP.i2d (nI k)).toNat)))
  rw [e1]
  generalize FP.Core.decode FP.Core.b64 (FP.i2d a).toNat = X at e3
  cases X with
  | nan => exact absurd rfl e3
  | inf s => exact nb64_inf
  | fin s c q =>
    simp only [FP.Core.quotient]
    rw [if_neg e2]
    exact nb64_ratio
theorem f2d_nn {a : UInt32} (h : nb32 a.toNat) : nb64 (FP.f2d a).toNat := by
  have h1 : FP.Core.fIsNaN a = false := decide_eq_false (nd32 h)
  unfold FP.f2d
  rw [h1]
  exact nb64_of (nb64_round (nd32 h))
/-- the mean depth, the share of waits -/
def mdF (σ : Nat → Nat) : UInt64 := if σ 1 = 0 then FP.dconst0 else FP.ddiv (FP.i2d (nI (sumL (fun k => σ (5 + 6 * k + 1)) (σ 1)))) (FP.i2d (nI (σ 1)))
def wsF (σ : Nat → Nat) : UInt32 := if σ 0 * σ 2 = 0 then FP.fconst0 else FP.fdiv (FP.i2f (nI (sumL (fun k => σ (65 + 5 * k + 4)) (σ 2)))) (FP.i2f (nI (σ 0 * σ 2)))
section XFR
variable {p : Program} {l : Launch} {e : Env} {R : Room} {s : State} {m : MethodId} {args : Array Value} {below : List Frame} {meth : Method} {c : Code} {cc : ByteArray} {nL : Nat} {Ts : List Cond} {own : String} {D : va_G} {tys : List (ClassId × FieldType)} {A : Nat → Prop} {cells slots : Nat} {Q : State → Prop} {ws : va_W} {lv : List (Nat × Value)} {pc : Nat} {st : List Value}
theorem z_fdiv (C : zC p s m args c cc nL Ts own D tys A) {x y : UInt32} (hdg : decode cc pc = .ok (.fdiv, 1)) (hne : vf_n32 (FP.fdiv x y)) (k : zW p l e R s m args below meth c nL D A cells slots Q ws lv (pc + 1) (.float (FP.fdiv x y) :: st)) : zW p l e R s m args below meth c nL D A cells slots Q ws lv pc (.float y :: .float x :: st) := fun H locs ls hP hD hS hl => lv_fdiv C.1 C.2.1 hdg hne (k H locs ls hP hD hS hl)
theorem z_ddiv (C : zC p s m args c cc nL Ts own D tys A) {x y : UInt64} (hdg : decode cc pc = .ok (.ddiv, 1)) (hne : vf_n64 (FP.ddiv x y)) (k : zW p l e R s m args below meth c nL D A cells slots Q ws lv (pc + 1) (.double (FP.ddiv x y) :: st)) : zW p l e R s m args below meth c nL D A cells slots Q ws lv pc (.double y :: .double x :: st) := fun H locs ls hP hD hS hl => lv_ddiv C.1 C.2.1 hdg hne (k H locs ls hP hD hS hl)
theorem z_f2d (C : zC p s m args c cc nL Ts own D tys A) {x : UInt32} (hdg : decode cc pc = .ok (.f2d, 1)) (hne : vf_n64 (FP.f2d x)) (k : zW p l e R s m args below meth c nL D A cells slots Q ws lv (pc + 1) (.double (FP.f2d x) :: st)) : zW p l e R s m args below meth c nL D A cells slots Q ws lv pc (.float x :: st) := fun H locs ls hP hD hS hl => lv_f2d C.1 C.2.1 hdg hne (k H locs ls hP hD hS hl)
theorem z_dcmp (C : zC p s m args c cc nL Ts own D tys A) {x y : UInt64} {op : CmpOp} (hdg : decode cc pc = .ok (.dcmp op, 1)) (k : zW p l e R s m args below meth c nL D A cells slots Q ws lv (pc + 1) (.int (Op.cmpValue (FP.dcmp x y) op) :: st)) : zW p l e R s m args below meth c nL D A cells slots Q ws lv pc (.double y :: .double x :: st) := fun H locs ls hP hD hS hl => lv_dcmp C.1 C.2.1 hdg (k H locs ls hP hD hS hl)
theorem z_fconst0 (C : zC p s m args c cc nL Ts own D tys A) (hdg : decode cc pc = .ok (.fconst 0, 1)) (k : zW p l e R s m args below meth c nL D A cells slots Q ws lv (pc + 1) (.float FP.fconst0 :: st)) : zW p l e R s m args below meth c nL D A cells slots Q ws lv pc st := fun H locs ls hP hD hS hl => lv_fconst0 C.1 C.2.1 hdg (k H locs ls hP hD hS hl)
theorem z_dconst0 (C : zC p s m args c cc nL Ts own D tys A) (hdg : decode cc pc = .ok (.dconst 0, 1)) (k : zW p l e R s m args below meth c nL D A cells slots Q ws lv (pc + 1) (.double FP.dconst0 :: st)) : zW p l e R s m args below meth c nL D A cells slots Q ws lv pc st := fun H locs ls hP hD hS hl => lv_dconst0 C.1 C.2.1 hdg (k H locs ls hP hD hS hl)
theorem z_fret (C : zC p s m args c cc nL Ts own D tys A) (hr : meth.sig.returnType = some .float) (hk : meth.locks = false) {S : Type} {ret : S → Option Value} {post : S → Prop} {w1 : S → va_W} {mc ms : Nat} {v : UInt32} (u : S) (hu : ret u = some (.float v)) (hp : post u) (hw : ws.Perm (w1 u)) (hdg : decode cc pc = .ok (.freturn, 1)) (hc : cells ≤ mc) (hs : slots ≤ ms) : zW p l e R s m args below meth c nL D A cells slots (MQ below (zPo D tys ret post w1 A) args s mc ms A) ws lv pc [.float v] := fun H locs ls hP hD hS hl =>
  W.widen hc hs (W.fret C.1 C.2.1 hr (z_end C u hp (zp_P hw hP) (zp_D hw hD) hS hu) hS.2.2 hdg hk)
theorem z_dret (C : zC p s m args c cc nL Ts own D tys A) (hr : meth.sig.returnType = some .double) (hk : meth.locks = false) {S : Type} {ret : S → Option Value} {post : S → Prop} {w1 : S → va_W} {mc ms : Nat} {v : UInt64} (u : S) (hu : ret u = some (.double v)) (hp : post u) (hw : ws.Perm (w1 u)) (hdg : decode cc pc = .ok (.dreturn, 1)) (hc : cells ≤ mc) (hs : slots ≤ ms) : zW p l e R s m args below meth c nL D A cells slots (MQ below (zPo D tys ret post w1 A) args s mc ms A) ws lv pc [.double v] := fun H locs ls hP hD hS hl =>
  W.widen hc hs (W.dret C.1 C.2.1 hr (z_end C u hp (zp_P hw hP) (zp_D hw hD) hS hu) hS.2.2 hdg hk)
end XFR
set_option maxRecDepth 100000 in
set_option maxHeartbeats 4000000 in
theorem mX5_meanDepth (l : Launch) (D : va_G) (κ : Nat → ClassId) (Sa : Nat → Nat) (g : Nat → Nat → Nat) (ra f9 h9 a9 b9 p9 o9 : Nat) (σ : Nat → Nat) (M : Nat) (hr : Rep g σ) (hv : Inv M σ) : zM l yX5_meanDepth wsX5_meanDepth { frames := 0, cells := 0, slots := 0, locals := 0 } D (zTy κ) [.ref ra] (SW κ Sa g ++ (RC ra (Sa 0) f9 h9 a9 b9 p9 o9)) (S := Unit) (fun _ => some (.double (mdF σ))) (fun _ => True) (fun _ => SW κ Sa g ++ (RC ra (Sa 0) f9 h9 a9 b9 p9 o9)) 0 0 := by
  refine zM_of (cc := cX5_meanDepth) (maxL := 3) (rt := (some .double)) [(0, .ref (ra))] (by decide +kernel) rfl (Nat.le_of_ble_eq_true rfl) rfl ?_
  intro p e s m args below meth c A C hr9 hk hnm
  have C : zC p s m args c cX5_meanDepth 3 wsX5_meanDepth RX5 D (zTy κ) A := C
  have hin5 : ∀ w ∈ wsX50, w ∈ wsX5_meanDepth := fun w h => List.mem_cons_of_mem _ (List.mem_append_left _ (List.mem_append_right _ h))
  have hin4 : ∀ w ∈ wsX40, w ∈ wsX5_meanDepth := fun w h => List.mem_cons_of_mem _ (List.mem_append_right _ h)
  have k10 : Cond.fieldLink RX5 10 "PeatRailway" "current" "LPeatRailway$State;" ∈ wsX5_meanDepth := by decide +kernel
  have k107 : Cond.fieldLink RX5 107 "PeatRailway$State" "blockCount" "I" ∈ wsX5_meanDepth := by decide +kernel
  have k125 : Cond.fieldLink RX5 125 "PeatRailway$State" "depth" "[I" ∈ wsX5_meanDepth := by decide +kernel
  refine z_eq (ws' := SW κ Sa g ++ (RC ra (Sa 0) f9 h9 a9 b9 p9 o9 ++ [])) ?_ rfl rfl rfl rfl
  have hn1 := hv.n1
  have hn2 := hv.n2
  refine z_aload_n C dX5_meanDepth_0 0 rfl ?_
  refine z_get C hin5 13 rfl rfl 0 (by decide) k10 rfl dX5_meanDepth_1 ?_
  refine zs_get_blockCount C hin4 (x := σ 1) k107 dX5_meanDepth_4 hr.1.s1 ?_
  refine zn_if_ne C 12 dX5_meanDepth_7 (by decide) (by omega) (fun h1 => ?_) (fun h2 => ?_)
  · refine z_iconst (v := nI 0) C dX5_meanDepth_12 (by decide) ?_
    refine z_istore_n C [(1, .int (nI 0)), (0, .ref (ra))] dX5_meanDepth_13 (by decide) rfl ?_
    refine z_iconst (v := nI 0) C dX5_meanDepth_14 (by decide) ?_
    refine z_istore_n C [(2, .int (nI 0)), (1, .int (nI 0)), (0, .ref (ra))] dX5_meanDepth_15 (by decide) rfl ?_
    refine z_lv [2, 1, 0] rfl ?_
    refine z_loop (σ := Nat) (fun k => SW κ Sa g ++ (RC ra (Sa 0) f9 h9 a9 b9 p9 o9 ++ [])) (fun k => [(0, .ref (ra)), (1, .int (nI (sumL (fun k => σ (5 + 6 * k + 1)) k))), (2, .int (nI k))]) (fun k => k ≤ σ 1) (fun k => σ 1 - k) (0) (Nat.zero_le _) rfl rfl ?_
    rintro k hI16 ih16
    refine z_iload_n C dX5_meanDepth_16 2 rfl ?_
    refine z_aload_n C dX5_meanDepth_17 0 rfl ?_
    refine z_get C hin5 13 rfl rfl 0 (by decide) k10 rfl dX5_meanDepth_18 ?_
    refine zs_get_blockCount C hin4 (x := σ 1) k107 dX5_meanDepth_21 hr.1.s1 ?_
    refine zn_icmp_ge C 45 dX5_meanDepth_24 (by decide) (by omega) (by omega) (fun h3 => ?_) (fun h4 => ?_)
    · refine z_iload_n C dX5_meanDepth_45 1 rfl ?_
      refine z_i2d C dX5_meanDepth_46 ?_
      refine z_aload_n C dX5_meanDepth_47 0 rfl ?_
      refine z_get C hin5 13 rfl rfl 0 (by decide) k10 rfl dX5_meanDepth_48 ?_
      refine zs_get_blockCount C hin4 (x := σ 1) k107 dX5_meanDepth_51 hr.1.s1 ?_
      refine z_i2d C dX5_meanDepth_54 ?_
      refine z_ddiv C dX5_meanDepth_55 (nv64 (ddiv_nn (by omega) (by omega))) ?_
      have hk9 : k = σ 1 := by omega
      exact z_dret C hr9 hk () (congrArg (fun n => some (Value.double n)) ((if_neg (by omega)).trans (by rw [hk9]))) trivial (List.Perm.of_eq rfl) dX5_meanDepth_56 (Nat.le_refl _) (Nat.le_refl _)
    · refine z_iload_n C dX5_meanDepth_27 1 rfl ?_
      refine z_aload_n C dX5_meanDepth_28 0 rfl ?_
      refine z_get C hin5 13 rfl rfl 0 (by decide) k10 rfl dX5_meanDepth_29 ?_
      refine zs_get_depth C hin4 k125 dX5_meanDepth_32 ?_
      refine z_iload_n C dX5_meanDepth_35 2 rfl ?_
      refine zs_ald_depth C (x := σ (5 + 6 * k + 1)) (by omega) (hr.1.b6 (by omega)) dX5_meanDepth_36 ?_
      refine zn_iadd C dX5_meanDepth_37 ?_
      refine z_istore_n C [(1, .int (nI ((sumL (fun k => σ (5 + 6 * k + 1)) k) + (σ (5 + 6 * k + 1))))), (0, .ref (ra)), (2, .int (nI k))] dX5_meanDepth_38 (by decide) rfl ?_
      refine zn_iinc (n := 1) C [(2, .int (nI (k + 1))), (1, .int (nI ((sumL (fun k => σ (5 + 6 * k + 1)) k) + (σ (5 + 6 * k + 1))))), (0, .ref (ra))] dX5_meanDepth_39 2 rfl (by decide) rfl ?_
      refine z_goto (tgt := 16) C dX5_meanDepth_42 (by decide) ?_
      refine z_lv [2, 1, 0] rfl ?_
      exact ih16 (k + 1) (by omega) (by omega)
  · refine z_dconst0 C dX5_meanDepth_10 ?_
    exact z_dret C hr9 hk () (congrArg (fun n => some (Value.double n)) (if_pos (by omega))) trivial (List.Perm.of_eq rfl) dX5_meanDepth_11 (Nat.le_refl _) (Nat.le_refl _)
theorem hdX5_meanDepth : yX5_meanDepth.cls = RX5 ∧ yX5_meanDepth.cls ≠ "java/lang/invoke/MethodHandle" ∧ yX5_meanDepth.cls ≠ "java/lang/invoke/VarHandle" ∧ (parseMethodDescriptor yX5_meanDepth.desc).map (fun d => d.parameters.length) = some 0 := by decide +kernel
set_option maxRecDepth 100000 in
set_option maxHeartbeats 4000000 in
theorem mX5_waitShare (l : Launch) (D : va_G) (κ : Nat → ClassId) (Sa : Nat → Nat) (g : Nat → Nat → Nat) (ra f9 h9 a9 b9 p9 o9 : Nat) (σ : Nat → Nat) (M : Nat) (hr : Rep g σ) (hv : Inv M σ) (h0 : σ 0 ≤ 9999) : zM l yX5_waitShare wsX5_waitShare { frames := 0, cells := 0, slots := 0, locals := 0 } D (zTy κ) [.ref ra] (SW κ Sa g ++ (RC ra (Sa 0) f9 h9 a9 b9 p9 o9)) (S := Unit) (fun _ => some (.float (wsF σ))) (fun _ => True) (fun _ => SW κ Sa g ++ (RC ra (Sa 0) f9 h9 a9 b9 p9 o9)) 0 0 := by
  refine zM_of (cc := cX5_waitShare) (maxL := 4) (rt := (some .float)) [(0, .ref (ra))] (by decide +kernel) rfl (Nat.le_of_ble_eq_true rfl) rfl ?_
  intro p e s m args below meth c A C hr9 hk hnm
  have C : zC p s m args c cX5_waitShare 4 wsX5_waitShare RX5 D (zTy κ) A := C
  have hin5 : ∀ w ∈ wsX50, w ∈ wsX5_waitShare := fun w h => List.mem_cons_of_mem _ (List.mem_append_left _ (List.mem_append_right _ h))
  have hin4 : ∀ w ∈ wsX40, w ∈ wsX5_waitShare := fun w h => List.mem_cons_of_mem _ (List.mem_append_right _ h)
  have k10 : Cond.fieldLink RX5 10 "PeatRailway" "current" "LPeatRailway$State;" ∈ wsX5_waitShare := by decide +kernel
  have k116 : Cond.fieldLink RX5 116 "PeatRailway$State" "tick" "I" ∈ wsX5_waitShare := by decide +kernel
  have k145 : Cond.fieldLink RX5 145 "PeatRailway$State" "trainCount" "I" ∈ wsX5_waitShare := by decide +kernel
  have k181 : Cond.fieldLink RX5 181 "PeatRailway$State" "waits" "[I" ∈ wsX5_waitShare := by decide +kernel
  refine z_eq (ws' := SW κ Sa g ++ (RC ra (Sa 0) f9 h9 a9 b9 p9 o9 ++ [])) ?_ rfl rfl rfl rfl
  have hn1 := hv.n1
  have hn2 := hv.n2
  have hch : σ 0 * σ 2 ≤ 9999 * 5 := Nat.mul_le_mul h0 hn2
  refine z_aload_n C dX5_waitShare_0 0 rfl ?_
  refine z_get C hin5 13 rfl rfl 0 (by decide) k10 rfl dX5_waitShare_1 ?_
  refine zs_get_tick C hin4 (x := σ 0) k116 dX5_waitShare_4 hr.1.s0 ?_
  refine z_aload_n C dX5_waitShare_7 0 rfl ?_
  refine z_get C hin5 13 rfl rfl 0 (by decide) k10 rfl dX5_waitShare_8 ?_
  refine zs_get_trainCount C hin4 (x := σ 2) k145 dX5_waitShare_11 hr.1.s2 ?_
  refine zn_imul C dX5_waitShare_14 ?_
  refine z_istore_n C [(1, .int (nI ((σ 0) * (σ 2)))), (0, .ref (ra))] dX5_waitShare_15 (by decide) rfl ?_
  refine z_iload_n C dX5_waitShare_16 0 rfl ?_
  refine zn_if_ne C 22 dX5_waitShare_17 (by decide) (by omega) (fun h1 => ?_) (fun h2 => ?_)
  · refine z_iconst (v := nI 0) C dX5_waitShare_22 (by decide) ?_
    refine z_istore_n C [(2, .int (nI 0)), (1, .int (nI ((σ 0) * (σ 2)))), (0, .ref (ra))] dX5_waitShare_23 (by decide) rfl ?_
    refine z_iconst (v := nI 0) C dX5_waitShare_24 (by decide) ?_
    refine z_istore_n C [(3, .int (nI 0)), (2, .int (nI 0)), (1, .int (nI ((σ 0) * (σ 2)))), (0, .ref (ra))] dX5_waitShare_25 (by decide) rfl ?_
    refine z_lv [3, 2, 1, 0] rfl ?_
    refine z_loop (σ := Nat) (fun k => SW κ Sa g ++ (RC ra (Sa 0) f9 h9 a9 b9 p9 o9 ++ [])) (fun k => [(0, .ref (ra)), (1, .int (nI (σ 0 * σ 2))), (2, .int (nI (sumL (fun k => σ (65 + 5 * k + 4)) k))), (3, .int (nI k))]) (fun k => k ≤ σ 2) (fun k => σ 2 - k) (0) (Nat.zero_le _) rfl rfl ?_
    rintro k hI26 ih26
    refine z_iload_n C dX5_waitShare_26 3 rfl ?_
    refine z_aload_n C dX5_waitShare_27 0 rfl ?_
    refine z_get C hin5 13 rfl rfl 0 (by decide) k10 rfl dX5_waitShare_28 ?_
    refine zs_get_trainCount C hin4 (x := σ 2) k145 dX5_waitShare_31 hr.1.s2 ?_
    refine zn_icmp_ge C 55 dX5_waitShare_34 (by decide) (by omega) (by omega) (fun h3 => ?_) (fun h4 => ?_)
    · refine z_iload_n C dX5_waitShare_55 2 rfl ?_
      refine z_i2f C dX5_waitShare_56 ?_
      refine z_iload_n C dX5_waitShare_57 1 rfl ?_
      refine z_i2f C dX5_waitShare_58 ?_
      refine z_fdiv C dX5_waitShare_59 (nv32 (fdiv_nn (by omega) (by omega))) ?_
      have hk9 : k = σ 2 := by omega
      exact z_fret C hr9 hk () (congrArg (fun n => some (Value.float n)) ((if_neg (by omega)).trans (by rw [hk9]))) trivial (List.Perm.of_eq rfl) dX5_waitShare_60 (Nat.le_refl _) (Nat.le_refl _)
    · refine z_iload_n C dX5_waitShare_37 2 rfl ?_
      refine z_aload_n C dX5_waitShare_38 0 rfl ?_
      refine z_get C hin5 13 rfl rfl 0 (by decide) k10 rfl dX5_waitShare_39 ?_
      refine zs_get_waits C hin4 k181 dX5_waitShare_42 ?_
      refine z_iload_n C dX5_waitShare_45 3 rfl ?_
      refine zs_ald_waits C (x := σ (65 + 5 * k + 4)) (by omega) (hr.1.t15 (by omega)) dX5_waitShare_46 ?_
      refine zn_iadd C dX5_waitShare_47 ?_
      refine z_istore_n C [(2, .int (nI ((sumL (fun k => σ (65 + 5 * k + 4)) k) + (σ (65 + 5 * k + 4))))), (0, .ref (ra)), (1, .int (nI (σ 0 * σ 2))), (3, .int (nI k))] dX5_waitShare_48 (by decide) rfl ?_
      refine zn_iinc (n := 1) C [(3, .int (nI (k + 1))), (2, .int (nI ((sumL (fun k => σ (65 + 5 * k + 4)) k) + (σ (65 + 5 * k + 4))))), (0, .ref (ra)), (1, .int (nI (σ 0 * σ 2)))] dX5_waitShare_49 3 rfl (by decide) rfl ?_
      refine z_goto (tgt := 26) C dX5_waitShare_52 (by decide) ?_
      refine z_lv [2, 3, 1, 0] rfl ?_
      exact ih26 (k + 1) (by omega) (by omega)
  · refine z_fconst0 C dX5_waitShare_20 ?_
    exact z_fret C hr9 hk () (congrArg (fun n => some (Value.float n)) (if_pos (by omega))) trivial (List.Perm.of_eq rfl) dX5_waitShare_21 (Nat.le_refl _) (Nat.le_refl _)
theorem hdX5_waitShare : yX5_waitShare.cls = RX5 ∧ yX5_waitShare.cls ≠ "java/lang/invoke/MethodHandle" ∧ yX5_waitShare.cls ≠ "java/lang/invoke/VarHandle" ∧ (parseMethodDescriptor yX5_waitShare.desc).map (fun d => d.parameters.length) = some 0 := by decide +kernel
end X5
