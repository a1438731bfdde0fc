section TP
theorem scn_run {P : Int32 → Bool} {ip : Nat → Int32} : ∀ (c p f : Nat), c ≤ f → (∀ j, j < c → P (ip (p + j)) = true) → (c = f ∨ P (ip (p + c)) = false) → scn P ip f p = p + c
  | 0, p, f, _, _, h => by
    rcases h with h | h
    · subst h
      rfl
    · cases f with
      | zero => rfl
      | succ f =>
        simp only [scn]
        rw [Nat.add_zero] at h
        rw [h]
        rfl
  | c + 1, p, f, hc, ha, h => by
    obtain ⟨f, rfl⟩ : ∃ g, f = g + 1 := ⟨f - 1, by omega⟩
    have h0 := ha 0 (by omega)
    rw [Nat.add_zero] at h0
    simp only [scn]
    rw [if_pos h0, scn_run c (p + 1) f (by omega) (fun j hj => by rw [show p + 1 + j = p + (j + 1) by omega]; exact ha (j + 1) (by omega)) (by
      rw [show p + 1 + c = p + (c + 1) by omega]
      rcases h with h | h
      · exact Or.inl (by omega)
      · exact Or.inr h)]
    omega
theorem isSp32 : isSp (nI 32) = true := by decide
theorem isSp59 : isSp (nI 59) = false := by decide
theorem isLt59 : isLt (nI 59) = false := by decide
theorem isDg59 : isDg (nI 59) = false := by decide
theorem isLt32 : isLt (nI 32) = false := by decide
theorem isDg32 : isDg (nI 32) = false := by decide
theorem dg_sp : ∀ d, d < 128 → 48 ≤ d → d ≤ 57 → isDg (nI d) = true ∧ isLt (nI d) = false ∧ isSp (nI d) = false := by decide
theorem lt_sp : ∀ d, d < 128 → 97 ≤ d → d ≤ 122 → isLt (nI d) = true ∧ isSp (nI d) = false := by decide
section TPV
variable {ip : Nat → Int32} {N : Nat}
theorem nx_sep {k f p : Nat} (hp : p < N) (h : ip p = nI 59) : nxT ip N (k, f, p) = (3, p, p + 1) := by
  have e : tkF ip N p = p := scn_no (Or.inr (by rw [h]; decide))
  have e2 : tkT ip N p = p + 1 := by
    simp only [tkT]
    rw [e, if_neg (by omega), h, if_neg (by decide), if_neg (by decide)]
  have e3 : tkK ip N k p = 3 := by
    simp only [tkK]
    rw [e, if_neg (by omega), h, if_neg (by decide), if_neg (by decide), if_pos rfl]
  show (tkK ip N k p, tkF ip N p, tkT ip N p) = _
  rw [e, e2, e3]
theorem nx_end {k f : Nat} : nxT ip N (k, f, N) = (0, N, N) := by
  have e : tkF ip N N = N := scn_no (Or.inl (Nat.le_refl _))
  have e2 : tkT ip N N = N := by
    simp only [tkT]
    rw [e, if_pos rfl]
  have e3 : tkK ip N k N = 0 := by
    simp only [tkK]
    rw [e, if_pos rfl]
  show (tkK ip N k N, tkF ip N N, tkT ip N N) = _
  rw [e, e2, e3]
theorem nx_word {k f p q w : Nat} (hpq : p ≤ q) (hw : 1 ≤ w) (hN : q + w ≤ N) (hs : ∀ j, p ≤ j → j < q → ip j = nI 32) (hl : ∀ j, j < w → isLt (ip (q + j)) = true ∧ isSp (ip (q + j)) = false) (he : q + w = N ∨ isLt (ip (q + w)) = false) (hg : p < q ∨ (k ≠ 1 ∧ k ≠ 2)) : nxT ip N (k, f, p) = (1, q, q + w) := by
  have hl0 := hl 0 hw
  rw [Nat.add_zero] at hl0
  have e : tkF ip N p = q := by
    have h := scn_run (P := isSp) (ip := ip) (q - p) p (N - p) (by omega) (fun j hj => by rw [hs (p + j) (by omega) (by omega)]; decide) (Or.inr (by rw [show p + (q - p) = q by omega]; exact hl0.2))
    show scn isSp ip (N - p) p = q
    rw [h]
    omega
  have e2 : tkT ip N p = q + w := by
    simp only [tkT]
    rw [e, if_neg (by omega), if_pos hl0.1]
    exact scn_run w q (N - q) (by omega) (fun j hj => (hl j hj).1) (by
      rcases he with he | he
      · exact Or.inl (by omega)
      · exact Or.inr he)
  have eg : tkG ip N k p = false := by
    simp only [tkG]
    rw [e]
    simp only [Bool.and_eq_false_iff, Bool.or_eq_false_iff, decide_eq_false_iff_not]
    omega
  have e3 : tkK ip N k p = 1 := by
    simp only [tkK]
    rw [e, if_neg (by omega), if_pos hl0.1, if_neg (by rw [eg]; decide)]
  show (tkK ip N k p, tkF ip N p, tkT ip N p) = _
  rw [e, e2, e3]
theorem nx_num {k f p q w : Nat} (hpq : p ≤ q) (hw : 1 ≤ w) (hw3 : w ≤ 3) (hN : q + w ≤ N) (hs : ∀ j, p ≤ j → j < q → ip j = nI 32) (hl : ∀ j, j < w → isDg (ip (q + j)) = true ∧ isLt (ip (q + j)) = false ∧ isSp (ip (q + j)) = false) (he : q + w = N ∨ isDg (ip (q + w)) = false) (hg : p < q ∨ (k ≠ 1 ∧ k ≠ 2)) : nxT ip N (k, f, p) = (2, q, q + w) := by
  have hl0 := hl 0 hw
  rw [Nat.add_zero] at hl0
  have e : tkF ip N p = q := by
    have h := scn_run (P := isSp) (ip := ip) (q - p) p (N - p) (by omega) (fun j hj => by rw [hs (p + j) (by omega) (by omega)]; decide) (Or.inr (by rw [show p + (q - p) = q by omega]; exact hl0.2.2))
    show scn isSp ip (N - p) p = q
    rw [h]
    omega
  have e2 : tkT ip N p = q + w := by
    simp only [tkT]
    rw [e, if_neg (by omega), if_neg (by rw [hl0.2.1]; decide), if_pos hl0.1]
    exact scn_run w q (N - q) (by omega) (fun j hj => (hl j hj).1) (by
      rcases he with he | he
      · exact Or.inl (by omega)
      · exact Or.inr he)
  have eg : tkG ip N k p = false := by
    simp only [tkG]
    rw [e]
    simp only [Bool.and_eq_false_iff, Bool.or_eq_false_iff, decide_eq_false_iff_not]
    omega
  have e3 : tkK ip N k p = 2 := by
    simp only [tkK]
    rw [e2, e, if_neg (by omega), if_neg (by rw [hl0.2.1]; decide), if_pos hl0.1, if_neg (by
      rw [eg]
      intro z
      rcases z with z | z
      · cases z
      · omega)]
  show (tkK ip N k p, tkF ip N p, tkT ip N p) = _
  rw [e, e2, e3]
theorem kyM_w {i q w : Nat} (hw : w ≤ 7) (h : ∀ k, k < w → ip (q + k) = nI (kyF (7 * i + k))) (h0 : ∀ k, k < 7 → w ≤ k → kyF (7 * i + k) = 0) : kyM i ip (1, q, q + w) = true := by
  simp only [kyM]
  rw [if_pos ⟨trivial, by omega⟩]
  refine allL_i 7 (fun k hk => ?_)
  simp only [kyB]
  apply decide_eq_true
  by_cases z : k < q + w - q
  · rw [if_pos z]
    exact h k (by omega)
  · rw [if_neg z, h0 k hk (by omega)]
theorem kyM_n {i q w : Nat} (h : ip q ≠ nI (kyF (7 * i))) (hw : 1 ≤ w) : kyM i ip (1, q, q + w) = false := by
  simp only [kyM]
  split
  · refine allL_f (k := 0) ?_ 7 (by decide)
    simp only [kyB]
    rw [if_pos (by omega)]
    exact decide_eq_false h
  · rfl
theorem numV_d {x q : Nat} (hx : x < 100) (h : ∀ j, j < dgn x → ip (q + j) = nI (dgs x j)) : numV ip q (dgn x) = x := by
  simp only [dgn, dgs] at *
  by_cases z : x < 10
  · rw [if_pos z] at h ⊢
    have h0 := h 0 (by decide)
    rw [if_pos z] at h0
    simp only [numV]
    rw [h0, dgN_nI (by omega)]
    omega
  · rw [if_neg z] at h ⊢
    have h0 := h 0 (by decide)
    have h1 := h 1 (by decide)
    rw [if_neg z, if_pos rfl] at h0
    rw [if_neg z, if_neg (by decide)] at h1
    simp only [numV]
    rw [h0, h1, dgN_nI (by omega), dgN_nI (by omega)]
    omega
theorem dgs_ok {x j : Nat} (hx : x < 100) : 48 ≤ dgs x j ∧ dgs x j ≤ 57 := by
  simp only [dgs]
  split
  · omega
  split <;> omega
theorem dgn_1 (x : Nat) : 1 ≤ dgn x ∧ dgn x ≤ 2 := by
  simp only [dgn]
  split <;> omega
/-- a number of one or two digits behind one blank -/
theorem nx_dig {k f p x : Nat} (hx : x < 100) (hN : p + 1 + dgn x ≤ N) (hs : ip p = nI 32) (h : ∀ j, j < dgn x → ip (p + 1 + j) = nI (dgs x j)) (he : p + 1 + dgn x = N ∨ isDg (ip (p + 1 + dgn x)) = false) : nxT ip N (k, f, p) = (2, p + 1, p + 1 + dgn x) :=
  nx_num (by omega) (dgn_1 x).1 (by have := (dgn_1 x).2; omega) hN (fun j h1 h2 => by rw [show j = p by omega]; exact hs) (fun j hj => by
    have h9 := dgs_ok (x := x) (j := j) hx
    rw [h j hj]
    exact dg_sp _ (by omega) h9.1 h9.2) he (Or.inl (by omega))
theorem pNum_d {lo hX q x : Nat} (hx : x < 100) (h : ∀ j, j < dgn x → ip (q + j) = nI (dgs x j)) (h1 : lo ≤ x) (h2 : x < hX) : pNum ip lo hX (2, q, q + dgn x) = .inr x := by
  simp only [pNum]
  rw [if_pos trivial, show q + dgn x - q = dgn x by omega, numV_d hx h, if_pos ⟨h1, h2⟩]
end TPV
/-- k letters t behind n letters -/
def Ap (n k : Nat) (t h h' : Nat → Nat) : Prop := (∀ j, j < n → h' j = h j) ∧ ∀ j, j < k → h' (n + j) = t j
/-- the text of n letters stands for the railway σ, if nothing or a semicolon comes behind -/
def TU (h : Nat → Nat) (n : Nat) (σ : Nat → Nat) : Prop :=
  ∀ (ip : Nat → Int32) (N : Nat), (∀ j, j < n → ip j = nI (h j)) → n ≤ N → (n = N ∨ ip n = nI 59) → ∃ F k f, N + 1 ≤ F + n ∧ (k = 1 ∨ k = 2) ∧ pText ip N = pLoop ip N F σ (nxT ip N (k, f, n))
theorem TU.fin {h : Nat → Nat} {n : Nat} {σ : Nat → Nat} (hT : TU h n σ) {ip : Nat → Int32} (hi : ∀ j, j < n → ip j = nI (h j)) : pText ip n = .inr σ := by
  obtain ⟨F, k, f, -, -, e⟩ := hT ip n hi (Nat.le_refl _) (Or.inl rfl)
  rw [e, nx_end]
  cases F with
  | zero => rfl
  | succ F =>
    simp only [pLoop]
    rfl
theorem lit_rw : ∀ k, k < 7 → sCh 1 k = kyF k ∧ 97 ≤ sCh 1 k ∧ sCh 1 k ≤ 122 := by decide +kernel
theorem lit_bl : sCh 25 0 = 59 ∧ sCh 25 6 = 32 ∧ ∀ k, k < 5 → sCh 25 (1 + k) = kyF (7 + k) ∧ 97 ≤ sCh 25 (1 + k) ∧ sCh 25 (1 + k) ≤ 122 := by decide +kernel
theorem lit_be : sCh 26 0 = 32 ∧ sCh 26 5 = 32 ∧ ∀ k, k < 4 → sCh 26 (1 + k) = kyF (14 + k) ∧ 97 ≤ sCh 26 (1 + k) ∧ sCh 26 (1 + k) ≤ 122 := by decide +kernel
theorem lit_tr : sCh 27 0 = 59 ∧ sCh 27 6 = 32 ∧ ∀ k, k < 5 → sCh 27 (1 + k) = kyF (21 + k) ∧ 97 ≤ sCh 27 (1 + k) ∧ sCh 27 (1 + k) ≤ 122 := by decide +kernel
theorem ky0 : ∀ i, i < 4 → ∀ k, k < 7 → (if i = 0 then 7 else if i = 2 then 4 else 5) ≤ k → kyF (7 * i + k) = 0 := by decide +kernel
theorem ky_bt : nI (kyF 21) ≠ nI (kyF (7 * 1)) := by decide +kernel
theorem TU.base {h : Nat → Nat} (h0 : ∀ j, j < 7 → h j = sCh 1 j) : TU h 7 (fun _ => 0) := by
  intro ip N hi hN hn
  have hc : ∀ j, j < 7 → ip j = nI (sCh 1 j) := fun j hj => by rw [hi j hj, h0 j hj]
  have e0 : nxT ip N (0, 0, 0) = (1, 0, 0 + 7) := nx_word (Nat.le_refl _) (by decide) (by omega) (fun j _ h2 => absurd h2 (Nat.not_lt_zero _)) (fun j hj => by
    rw [Nat.zero_add, hc j hj]
    have h9 := (lit_rw j hj).2
    exact lt_sp _ (by omega) h9.1 h9.2) (by
    rcases hn with hn | hn
    · exact Or.inl (by omega)
    · exact Or.inr (by rw [Nat.zero_add, hn]; decide)) (Or.inr ⟨by decide, by decide⟩)
  refine ⟨N + 1, 1, 0, by omega, Or.inl rfl, ?_⟩
  have ek : kyM 0 ip (nxT ip N (0, 0, 0)) = true := by
    rw [e0]
    exact kyM_w (by decide) (fun k hk => by rw [Nat.zero_add, hc k hk, (lit_rw k hk).1]) (fun k hk h7 => by omega)
  simp only [pText]
  rw [if_pos ek, e0]
section TPS
variable {h h1 h2 h3 h4 h5 h6 h7 h8 : Nat → Nat} {n : Nat} {σ : Nat → Nat}
theorem Ap.pre {h h' t : Nat → Nat} {n k : Nat} (a : Ap n k t h h') {ip : Nat → Int32} {m : Nat} (hi : ∀ j, j < m → ip j = nI (h' j)) (hm : n + k ≤ m) : (∀ j, j < n → ip j = nI (h j)) ∧ ∀ j, j < k → ip (n + j) = nI (t j) :=
  ⟨fun j hj => by rw [hi j (by omega), a.1 j hj], fun j hj => by rw [hi (n + j) (by omega), a.2 j hj]⟩
theorem bk9 {x : Nat} (h : x < 2147483648) (hx : x = 59 ∨ x = 32) : isDg (nI x) = false := by
  rcases hx with rfl | rfl
  · decide
  · decide
/-- the head of a line of a word of five letters -/
theorem ln_word {ip : Nat → Int32} {N i c : Nat} (hl : sCh i 0 = 59 ∧ sCh i 6 = 32 ∧ ∀ k, k < 5 → sCh i (1 + k) = kyF (c + k) ∧ 97 ≤ sCh i (1 + k) ∧ sCh i (1 + k) ≤ 122) (hN : n + 7 < N) (hw : ∀ j, j < 7 → ip (n + j) = nI (sCh i j)) (k f : Nat) : nxT ip N (k, f, n) = (3, n, n + 1) ∧ nxT ip N (3, n, n + 1) = (1, n + 1, n + 1 + 5) ∧ ∀ j, j < 5 → ip (n + 1 + j) = nI (kyF (c + j)) := by
  have hj : ∀ j, j < 5 → ip (n + 1 + j) = nI (sCh i (1 + j)) := fun j hj => by rw [show n + 1 + j = n + (1 + j) by omega, hw (1 + j) (by omega)]
  refine ⟨nx_sep (by omega) ?_, nx_word (Nat.le_refl _) (by decide) (by omega) (fun j h1 h2 => by omega) (fun j hj5 => ?_) (Or.inr ?_) (Or.inr ⟨by decide, by decide⟩), fun j hj5 => ?_⟩
  · have := hw 0 (by decide)
    rw [Nat.add_zero] at this
    rw [this, hl.1]
  · rw [hj j hj5]
    have h9 := (hl.2.2 j hj5).2
    exact lt_sp _ (by omega) h9.1 h9.2
  · rw [show n + 1 + 5 = n + 6 by omega, hw 6 (by decide), hl.2.1]
    decide
  · rw [hj j hj5, (hl.2.2 j hj5).1]
theorem TU.block (hT : TU h n σ) {L d : Nat} (a1 : Ap n 7 (sCh 25) h h1) (a2 : Ap (n + 7) (dgn L) (dgs L) h1 h2) (a3 : Ap (n + 7 + dgn L) 1 (fun _ => 32) h2 h3) (a4 : Ap (n + 7 + dgn L + 1) (dgn d) (dgs d) h3 h4) (hL1 : 1 ≤ L) (hL : L ≤ 20) (hd : d ≤ 9) (h9 : σ 1 < 10) : TU h4 (n + 7 + dgn L + 1 + dgn d) (layS σ L d 5 0) := by
  intro ip N hi hN hn
  obtain ⟨i3, t4⟩ := a4.pre hi (Nat.le_refl _)
  obtain ⟨i2, t3⟩ := a3.pre i3 (Nat.le_refl _)
  obtain ⟨i1, t2⟩ := a2.pre i2 (Nat.le_refl _)
  obtain ⟨i0, t1⟩ := a1.pre i1 (Nat.le_refl _)
  have dL := dgn_1 L
  have dd := dgn_1 d
  obtain ⟨w1, w2, w3⟩ := ln_word (n := n) lit_bl (ip := ip) (N := N) (by omega) t1 0 0
  have e59 : ip n = nI 59 := by
    have := t1 0 (by decide)
    rw [Nat.add_zero, lit_bl.1] at this
    exact this
  obtain ⟨F, k, f, hF, hk, e⟩ := hT ip N i0 (by omega) (Or.inr e59)
  have w1 := (ln_word (n := n) lit_bl (ip := ip) (N := N) (by omega) t1 k f).1
  obtain ⟨F, rfl⟩ : ∃ G, F = G + 1 := ⟨F - 1, by omega⟩
  have s6 : ip (n + 6) = nI 32 := by rw [t1 6 (by decide), lit_bl.2.1]
  have s7 : ip (n + 7 + dgn L) = nI 32 := by
    have := t3 0 (by decide)
    rwa [Nat.add_zero] at this
  have n1 : nxT ip N (1, n + 1, n + 1 + 5) = (2, n + 7, n + 7 + dgn L) := nx_dig (p := n + 6) (by omega) (by omega) s6 t2 (Or.inr (by rw [show n + 6 + 1 + dgn L = n + 7 + dgn L by omega, s7]; decide))
  have n2 : nxT ip N (2, n + 7, n + 7 + dgn L) = (2, n + 7 + dgn L + 1, n + 7 + dgn L + 1 + dgn d) := nx_dig (p := n + 7 + dgn L) (by omega) (by omega) s7 t4 (by
    rcases hn with hn | hn
    · exact Or.inl hn
    · exact Or.inr (by rw [hn]; decide))
  have n3 : ∃ T, nxT ip N (2, n + 7 + dgn L + 1, n + 7 + dgn L + 1 + dgn d) = T ∧ T.1 ≠ 1 := by
    rcases hn with hn | hn
    · refine ⟨_, rfl, ?_⟩
      rw [hn, nx_end]
      show (0 : Nat) ≠ 1
      decide
    · by_cases z : n + 7 + dgn L + 1 + dgn d = N
      · refine ⟨_, rfl, ?_⟩
        rw [z, nx_end]
        show (0 : Nat) ≠ 1
        decide
      · refine ⟨_, rfl, ?_⟩
        rw [nx_sep (by omega) hn]
        show (3 : Nat) ≠ 1
        decide
  obtain ⟨T, n3, hT1⟩ := n3
  have kb : kyM 1 ip (1, n + 1, n + 1 + 5) = true := kyM_w (by decide) (fun k hk => w3 k hk) (fun k hk hk5 => ky0 1 (by decide) k hk hk5)
  have k2 : kyM 2 ip T = false := by
    simp only [kyM]
    rw [if_neg (fun z => hT1 z.1)]
  refine ⟨F, 2, n + 7 + dgn L + 1, by omega, Or.inr rfl, ?_⟩
  rw [e, w1]
  simp only [pLoop]
  rw [if_neg (by decide), if_pos trivial, w2]
  simp only [pLine]
  rw [if_pos kb]
  simp only [pBlock]
  rw [if_neg (by omega), n1, n2, n3, pNum_d (by omega) t2 hL1 (by omega), bdS_r, pNum_d (by omega) t4 (Nat.zero_le _) (by omega), bdS_r, if_neg (by rw [k2]; decide), bdS_r]
theorem TU.bend (hT : TU h n σ) {L d x : Nat} (a1 : Ap n 7 (sCh 25) h h1) (a2 : Ap (n + 7) (dgn L) (dgs L) h1 h2) (a3 : Ap (n + 7 + dgn L) 1 (fun _ => 32) h2 h3) (a4 : Ap (n + 7 + dgn L + 1) (dgn d) (dgs d) h3 h4) (a5 : Ap (n + 7 + dgn L + 1 + dgn d) 6 (sCh 26) h4 h5) (a6 : Ap (n + 7 + dgn L + 1 + dgn d + 6) (dgn x) (dgs x) h5 h6) (hL1 : 1 ≤ L) (hL : L ≤ 20) (hd : d ≤ 9) (hx1 : 1 ≤ x) (hx : x ≤ 5) (h9 : σ 1 < 10) : TU h6 (n + 7 + dgn L + 1 + dgn d + 6 + dgn x) (layS σ L d x 1) := by
  intro ip N hi hN hn
  obtain ⟨i5, t6⟩ := a6.pre hi (Nat.le_refl _)
  obtain ⟨i4, t5⟩ := a5.pre i5 (Nat.le_refl _)
  obtain ⟨i3, t4⟩ := a4.pre i4 (Nat.le_refl _)
  obtain ⟨i2, t3⟩ := a3.pre i3 (Nat.le_refl _)
  obtain ⟨i1, t2⟩ := a2.pre i2 (Nat.le_refl _)
  obtain ⟨i0, t1⟩ := a1.pre i1 (Nat.le_refl _)
  have dL := dgn_1 L
  have dd := dgn_1 d
  have dx := dgn_1 x
  obtain ⟨-, w2, w3⟩ := ln_word (n := n) lit_bl (ip := ip) (N := N) (by omega) t1 0 0
  have e59 : ip n = nI 59 := by
    have := t1 0 (by decide)
    rw [Nat.add_zero, lit_bl.1] at this
    exact this
  obtain ⟨F, k, f, hF, hk, e⟩ := hT ip N i0 (by omega) (Or.inr e59)
  have w1 := (ln_word (n := n) lit_bl (ip := ip) (N := N) (by omega) t1 k f).1
  obtain ⟨F, rfl⟩ : ∃ G, F = G + 1 := ⟨F - 1, by omega⟩
  have s6 : ip (n + 6) = nI 32 := by rw [t1 6 (by decide), lit_bl.2.1]
  have s7 : ip (n + 7 + dgn L) = nI 32 := by
    have := t3 0 (by decide)
    rwa [Nat.add_zero] at this
  have s8 : ip (n + 7 + dgn L + 1 + dgn d) = nI 32 := by
    have := t5 0 (by decide)
    rwa [Nat.add_zero, lit_be.1] at this
  have s9 : ip (n + 7 + dgn L + 1 + dgn d + 5) = nI 32 := by rw [t5 5 (by decide), lit_be.2.1]
  have hb : ∀ j, j < 4 → ip (n + 7 + dgn L + 1 + dgn d + 1 + j) = nI (sCh 26 (1 + j)) := fun j hj => by rw [show n + 7 + dgn L + 1 + dgn d + 1 + j = n + 7 + dgn L + 1 + dgn d + (1 + j) by omega, t5 (1 + j) (by omega)]
  have n1 : nxT ip N (1, n + 1, n + 1 + 5) = (2, n + 7, n + 7 + dgn L) := nx_dig (p := n + 6) (by omega) (by omega) s6 t2 (Or.inr (by rw [show n + 6 + 1 + dgn L = n + 7 + dgn L by omega, s7]; decide))
  have n2 : nxT ip N (2, n + 7, n + 7 + dgn L) = (2, n + 7 + dgn L + 1, n + 7 + dgn L + 1 + dgn d) := nx_dig (p := n + 7 + dgn L) (by omega) (by omega) s7 t4 (Or.inr (by rw [s8]; decide))
  have n3 : nxT ip N (2, n + 7 + dgn L + 1, n + 7 + dgn L + 1 + dgn d) = (1, n + 7 + dgn L + 1 + dgn d + 1, n + 7 + dgn L + 1 + dgn d + 1 + 4) := nx_word (by omega) (by decide) (by omega) (fun j j1 j2 => by rw [show j = n + 7 + dgn L + 1 + dgn d by omega]; exact s8) (fun j hj => by
    rw [hb j hj]
    have h9 := (lit_be.2.2 j hj).2
    exact lt_sp _ (by omega) h9.1 h9.2) (Or.inr (by rw [show n + 7 + dgn L + 1 + dgn d + 1 + 4 = n + 7 + dgn L + 1 + dgn d + 5 by omega, s9]; decide)) (Or.inl (by omega))
  have n4 : nxT ip N (1, n + 7 + dgn L + 1 + dgn d + 1, n + 7 + dgn L + 1 + dgn d + 1 + 4) = (2, n + 7 + dgn L + 1 + dgn d + 6, n + 7 + dgn L + 1 + dgn d + 6 + dgn x) := nx_dig (p := n + 7 + dgn L + 1 + dgn d + 5) (by omega) (by omega) s9 t6 (by
    rcases hn with hn | hn
    · exact Or.inl (by omega)
    · exact Or.inr (by rw [show n + 7 + dgn L + 1 + dgn d + 5 + 1 + dgn x = n + 7 + dgn L + 1 + dgn d + 6 + dgn x by omega, hn]; decide))
  have kb : kyM 1 ip (1, n + 1, n + 1 + 5) = true := kyM_w (by decide) (fun k hk => w3 k hk) (fun k hk hk5 => ky0 1 (by decide) k hk hk5)
  have k2 : kyM 2 ip (1, n + 7 + dgn L + 1 + dgn d + 1, n + 7 + dgn L + 1 + dgn d + 1 + 4) = true := kyM_w (by decide) (fun k hk => by rw [hb k hk, (lit_be.2.2 k hk).1]) (fun k hk hk5 => ky0 2 (by decide) k hk hk5)
  refine ⟨F, 2, n + 7 + dgn L + 1 + dgn d + 6, by omega, Or.inr rfl, ?_⟩
  rw [e, w1]
  simp only [pLoop]
  rw [if_neg (by decide), if_pos trivial, w2]
  simp only [pLine]
  rw [if_pos kb]
  simp only [pBlock]
  rw [if_neg (by omega), n1, n2, n3, n4, pNum_d (by omega) t2 hL1 (by omega), bdS_r, pNum_d (by omega) t4 (Nat.zero_le _) (by omega), bdS_r, if_pos k2, pNum_d (by omega) t6 hx1 (by omega), bdS_r, bdS_r]
theorem TU.train (hT : TU h n σ) {b w s : Nat} (a1 : Ap n 7 (sCh 27) h h1) (a2 : Ap (n + 7) (dgn b) (dgs b) h1 h2) (a3 : Ap (n + 7 + dgn b) 1 (fun _ => 32) h2 h3) (a4 : Ap (n + 7 + dgn b + 1) (dgn w) (dgs w) h3 h4) (a5 : Ap (n + 7 + dgn b + 1 + dgn w) 1 (fun _ => 32) h4 h5) (a6 : Ap (n + 7 + dgn b + 1 + dgn w + 1) (dgn s) (dgs s) h5 h6) (hb : b < σ 1) (h10 : σ 1 ≤ 10) (ho : occ σ b = false) (hw1 : 1 ≤ w) (hw : w ≤ 12) (hs1 : 1 ≤ s) (hs : s ≤ 5) (h9 : σ 2 < 5) : TU h6 (n + 7 + dgn b + 1 + dgn w + 1 + dgn s) (setS σ b w s) := by
  intro ip N hi hN hn
  obtain ⟨i5, t6⟩ := a6.pre hi (Nat.le_refl _)
  obtain ⟨i4, t5⟩ := a5.pre i5 (Nat.le_refl _)
  obtain ⟨i3, t4⟩ := a4.pre i4 (Nat.le_refl _)
  obtain ⟨i2, t3⟩ := a3.pre i3 (Nat.le_refl _)
  obtain ⟨i1, t2⟩ := a2.pre i2 (Nat.le_refl _)
  obtain ⟨i0, t1⟩ := a1.pre i1 (Nat.le_refl _)
  have dL := dgn_1 b
  have dd := dgn_1 w
  have dx := dgn_1 s
  obtain ⟨-, w2, w3⟩ := ln_word (n := n) lit_tr (ip := ip) (N := N) (by omega) t1 0 0
  have e59 : ip n = nI 59 := by
    have := t1 0 (by decide)
    rw [Nat.add_zero, lit_tr.1] at this
    exact this
  obtain ⟨F, k, f, hF, hk, e⟩ := hT ip N i0 (by omega) (Or.inr e59)
  have w1 := (ln_word (n := n) lit_tr (ip := ip) (N := N) (by omega) t1 k f).1
  obtain ⟨F, rfl⟩ : ∃ G, F = G + 1 := ⟨F - 1, by omega⟩
  have s6 : ip (n + 6) = nI 32 := by rw [t1 6 (by decide), lit_tr.2.1]
  have s7 : ip (n + 7 + dgn b) = nI 32 := by
    have := t3 0 (by decide)
    rwa [Nat.add_zero] at this
  have s8 : ip (n + 7 + dgn b + 1 + dgn w) = nI 32 := by
    have := t5 0 (by decide)
    rwa [Nat.add_zero] at this
  have n1 : nxT ip N (1, n + 1, n + 1 + 5) = (2, n + 7, n + 7 + dgn b) := nx_dig (p := n + 6) (by omega) (by omega) s6 t2 (Or.inr (by rw [show n + 6 + 1 + dgn b = n + 7 + dgn b by omega, s7]; decide))
  have n2 : nxT ip N (2, n + 7, n + 7 + dgn b) = (2, n + 7 + dgn b + 1, n + 7 + dgn b + 1 + dgn w) := nx_dig (p := n + 7 + dgn b) (by omega) (by omega) s7 t4 (Or.inr (by rw [s8]; decide))
  have n3 : nxT ip N (2, n + 7 + dgn b + 1, n + 7 + dgn b + 1 + dgn w) = (2, n + 7 + dgn b + 1 + dgn w + 1, n + 7 + dgn b + 1 + dgn w + 1 + dgn s) := nx_dig (p := n + 7 + dgn b + 1 + dgn w) (by omega) (by omega) s8 t6 (by
    rcases hn with hn | hn
    · exact Or.inl hn
    · exact Or.inr (by rw [hn]; decide))
  have kb : kyM 1 ip (1, n + 1, n + 1 + 5) = false := kyM_n (by
    have := w3 0 (by decide)
    rw [Nat.add_zero] at this
    rw [this]
    exact ky_bt) (by decide)
  have k3 : kyM 3 ip (1, n + 1, n + 1 + 5) = true := kyM_w (by decide) (fun k hk => w3 k hk) (fun k hk hk5 => ky0 3 (by decide) k hk hk5)
  refine ⟨F, 2, n + 7 + dgn b + 1 + dgn w + 1, by omega, Or.inr rfl, ?_⟩
  rw [e, w1]
  simp only [pLoop]
  rw [if_neg (by decide), if_pos trivial, w2]
  simp only [pLine]
  rw [if_neg (by rw [kb]; decide), if_pos k3]
  simp only [pTrain]
  rw [if_neg (by omega), n1, n2, n3, pNum_d (by omega) t2 (Nat.zero_le _) hb, bdS_r, if_neg (by rw [ho]; decide), pNum_d (by omega) t4 hw1 (by omega), bdS_r, pNum_d (by omega) t6 hs1 (by omega), bdS_r, bdS_r]
end TPS
end TP
